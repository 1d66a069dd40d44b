/-! ===== the law's cases ===== -/
theorem and31 (y : Int32) : ∃ k, k < 32 ∧ y &&& nI 31 = nI k := by
  have h := tn_lt (y &&& nI 31) (n := 5) (by decide) (fun i h1 h2 => by
    rw [and_gb]
    have : gb (nI 31) i = false := by
      have z : ∀ i, i < 32 → 5 ≤ i → gb (nI 31) i = false := by decide
      exact z i h2 h1
    rw [this, Bool.and_false])
  exact ⟨tn (y &&& nI 31), h, tn_inj (by rw [tn_nI (by omega)])⟩
theorem rec_of {X : Cx} {σ : Hp} {s : State} {H : Heap} {K r k ci : Nat} {q : vw_C} {fs : List Value} (hid : (K, r, k) ∈ ids X) (hc : cel X (σ K r k) K r k = .inr (ci, fs)) (hq : vwCl[ci]? = some q) (hK : KX X s) (hP : va_P X.1 vwCl (wl X σ) H) : ∃ cellB : Cell, H[adr X K r k]? = some cellB ∧ cellB.vm.isStatics = false ∧ s.vm.findClass q.1 = some cellB.cls := by
  obtain ⟨i, -, hi⟩ := wl_get X σ hid
  rw [hc] at hi
  exact va_recv hK.2.1 hP hq hi
/-- what stands all through the law, once both are made -/
def LC (X : Cx) (p : Program) (s : State) (m : MethodId) (meth : Method) (c : Code) (b L : Nat) (xs : Nat → Int32) : Prop := lw_At p s m meth c b L xs ∧ KX X s ∧ SA X (fun q : Nat => s.heap.size ≤ q) s s.heap ∧ (∀ q, Ax X q → s.heap.size ≤ q) ∧ LVs X ∧ Lv X 4 0 ∧ L ≤ 2560
section LAWC
variable {p : Program} {l : Launch} {e : Env} {s : State} {m : MethodId} {below : List Frame} {meth : Method} {c : Code} {H : Heap} {locs : List Loc} {Q : State → Prop} {ls : Array Slot} {X : Cx} {b L i : Nat} {xs : Nat → Int32} {σ : Hp}
set_option maxHeartbeats 4000000 in
set_option maxRecDepth 100000 in
theorem lc_type (C1 : LC X p s m meth c b L xs) (hi5 : i + 5 ≤ L) (hRel : Rel σ) (hP : va_P X.1 vwCl (wl X σ) H) (hS : va_S (fun q : Nat => s.heap.size ≤ q) s.heap H locs) (hl : lv_has ls 4 [(3, .int (nI i)), (2, .ref (adr X 4 0 0)), (1, .ref (adr X 0 0 0)), (0, .ref b)])
    (kk : ∀ σ' H' locs', Rel σ' → va_P X.1 vwCl (wl X σ') H' → va_S (fun q : Nat => s.heap.size ≤ q) s.heap H' locs' → W p l e room_1 s m #[Value.ref b] below meth c H' locs' 155 3776 Q (F0 m 722 ls [])) : W p l e room_1 s m #[Value.ref b] below meth c H locs 155 3776 Q (F0 m 136 ls []) := by
  obtain ⟨⟨hx, hb, hr, hml, hown, hts0, hX, hbl, hlocks, hgv⟩, hK, hSA, hsub, hLv, hv4, hL⟩ := C1
  have hts : ∀ w ∈ tb, w.before #[Value.ref b] s = true := fun w hw => hts0 w (tb_in w hw)
  have hbA : ¬ (fun q : Nat => s.heap.size ≤ q) b := Nat.not_le.mpr hbl
  refine lv_aload_n hx hb dL_law_136 rfl (lv_at hl 2 rfl) ?_
  refine lv_aload_n hx hb dL_law_137 rfl (lv_at hl 3 rfl) ?_
  refine lv_iload_n hx hb dL_law_138 rfl (lv_at hl 0 rfl) ?_
  refine lv_iconst (v := nI 1) hx hb dL_law_139 (by decide) ?_
  refine lv_iadd hx hb dL_law_140 ?_
  refine va_sld hx hb hX hbl hbA hS (by rw [nI_add]; exact vp_in_nI (by omega) (by omega)) dL_law_141 ?_
  refine W_conV (X := X) (A0 := fun q : Nat => s.heap.size ≤ q) (own := RL) (σ := σ) (C := RX3) (As := [.int (xs (nI i + nI 1).toNatClampNeg)]) (rest := []) hx hb hml hown hts hK hSA hsub hP hS hl.1 (rec_of (hLv.1 0 (by decide)) rfl rfl hK hP) (pair_type hLv hv4 hRel) ml_L_13 im_yX3_type se_RX3_yX3_type ini_RX3 co_yX3_type rfl de_X3_type ⟨Nat.le_of_ble_eq_true rfl, Nat.le_of_ble_eq_true rfl⟩ ⟨Nat.le_of_ble_eq_true rfl, Nat.le_of_ble_eq_true rfl⟩ rfl (by decide) dL_law_142 ?_
  rintro r u H locs ⟨x, rfl, hC2⟩ hP - - hS
  refine lv_aload_n hx hb dL_law_145 rfl (lv_at hl 1 rfl) ?_
  refine lv_aload_n hx hb dL_law_146 rfl (lv_at hl 3 rfl) ?_
  refine lv_iload_n hx hb dL_law_147 rfl (lv_at hl 0 rfl) ?_
  refine lv_iconst (v := nI 1) hx hb dL_law_148 (by decide) ?_
  refine lv_iadd hx hb dL_law_149 ?_
  refine va_sld hx hb hX hbl hbA hS (by rw [nI_add]; exact vp_in_nI (by omega) (by omega)) dL_law_150 ?_
  refine W_conV (X := X) (A0 := fun q : Nat => s.heap.size ≤ q) (own := RL) (σ := u) (C := RX4) (As := [.int (xs (nI i + nI 1).toNatClampNeg)]) (rest := [.int x]) hx hb hml hown hts hK hSA hsub hP hS hl.1 (rec_of (hv4 0 (by decide)) rfl rfl hK hP) hC2 ml_L_17 im_yX4_type se_RX4_yX4_type ini_RX4 co_yX4_type rfl de_X4_type ⟨Nat.le_of_ble_eq_true rfl, Nat.le_of_ble_eq_true rfl⟩ ⟨Nat.le_of_ble_eq_true rfl, Nat.le_of_ble_eq_true rfl⟩ rfl (Nat.le_of_ble_eq_true rfl) dL_law_151 ?_
  rintro r u H locs ⟨rfl, hRel⟩ hP - - hS
  exact lv_icmp_eq (tgt := 722) hx hb dL_law_154 (by decide) (fun _ => kk u H locs hRel hP hS) (fun z => absurd rfl z)
set_option maxHeartbeats 4000000 in
set_option maxRecDepth 100000 in
theorem lc_clear (C1 : LC X p s m meth c b L xs) (hi5 : i + 5 ≤ L) (hRel : Rel σ) (hP : va_P X.1 vwCl (wl X σ) H) (hS : va_S (fun q : Nat => s.heap.size ≤ q) s.heap H locs) (hl : lv_has ls 4 [(3, .int (nI i)), (2, .ref (adr X 4 0 0)), (1, .ref (adr X 0 0 0)), (0, .ref b)])
    (kk : ∀ σ' H' locs', Rel σ' → va_P X.1 vwCl (wl X σ') H' → va_S (fun q : Nat => s.heap.size ≤ q) s.heap H' locs' → W p l e room_1 s m #[Value.ref b] below meth c H' locs' 155 3776 Q (F0 m 722 ls [])) : W p l e room_1 s m #[Value.ref b] below meth c H locs 155 3776 Q (F0 m 159 ls []) := by
  obtain ⟨⟨hx, hb, hr, hml, hown, hts0, hX, hbl, hlocks, hgv⟩, hK, hSA, hsub, hLv, hv4, hL⟩ := C1
  have hts : ∀ w ∈ tb, w.before #[Value.ref b] s = true := fun w hw => hts0 w (tb_in w hw)
  have hbA : ¬ (fun q : Nat => s.heap.size ≤ q) b := Nat.not_le.mpr hbl
  refine lv_aload_n hx hb dL_law_159 rfl (lv_at hl 2 rfl) ?_
  refine W_conV (X := X) (A0 := fun q : Nat => s.heap.size ≤ q) (own := RL) (σ := σ) (C := RX3) (As := []) (rest := []) hx hb hml hown hts hK hSA hsub hP hS hl.1 (rec_of (hLv.1 0 (by decide)) rfl rfl hK hP) (pair_clear hLv hv4 hRel) ml_L_18 im_yX3_clear se_RX3_yX3_clear ini_RX3 co_yX3_clear rfl de_X3_clear ⟨Nat.le_of_ble_eq_true rfl, Nat.le_of_ble_eq_true rfl⟩ ⟨Nat.le_of_ble_eq_true rfl, Nat.le_of_ble_eq_true rfl⟩ rfl (by decide) dL_law_160 ?_
  rintro r u H locs ⟨x, rfl, hC2⟩ hP - - hS
  refine lv_aload_n hx hb dL_law_163 rfl (lv_at hl 1 rfl) ?_
  refine W_conV (X := X) (A0 := fun q : Nat => s.heap.size ≤ q) (own := RL) (σ := u) (C := RX4) (As := []) (rest := [.int x]) hx hb hml hown hts hK hSA hsub hP hS hl.1 (rec_of (hv4 0 (by decide)) rfl rfl hK hP) hC2 ml_L_22 im_yX4_clear se_RX4_yX4_clear ini_RX4 co_yX4_clear rfl de_X4_clear ⟨Nat.le_of_ble_eq_true rfl, Nat.le_of_ble_eq_true rfl⟩ ⟨Nat.le_of_ble_eq_true rfl, Nat.le_of_ble_eq_true rfl⟩ rfl (Nat.le_of_ble_eq_true rfl) dL_law_164 ?_
  rintro r u H locs ⟨rfl, hRel⟩ hP - - hS
  exact lv_icmp_eq (tgt := 722) hx hb dL_law_167 (by decide) (fun _ => kk u H locs hRel hP hS) (fun z => absurd rfl z)
set_option maxHeartbeats 4000000 in
set_option maxRecDepth 100000 in
theorem lc_tells (C1 : LC X p s m meth c b L xs) (hi5 : i + 5 ≤ L) (hRel : Rel σ) (hP : va_P X.1 vwCl (wl X σ) H) (hS : va_S (fun q : Nat => s.heap.size ≤ q) s.heap H locs) (hl : lv_has ls 4 [(3, .int (nI i)), (2, .ref (adr X 4 0 0)), (1, .ref (adr X 0 0 0)), (0, .ref b)])
    (kk : ∀ σ' H' locs', Rel σ' → va_P X.1 vwCl (wl X σ') H' → va_S (fun q : Nat => s.heap.size ≤ q) s.heap H' locs' → W p l e room_1 s m #[Value.ref b] below meth c H' locs' 155 3776 Q (F0 m 722 ls [])) : W p l e room_1 s m #[Value.ref b] below meth c H locs 155 3776 Q (F0 m 172 ls []) := by
  obtain ⟨⟨hx, hb, hr, hml, hown, hts0, hX, hbl, hlocks, hgv⟩, hK, hSA, hsub, hLv, hv4, hL⟩ := C1
  have hts : ∀ w ∈ tb, w.before #[Value.ref b] s = true := fun w hw => hts0 w (tb_in w hw)
  have hbA : ¬ (fun q : Nat => s.heap.size ≤ q) b := Nat.not_le.mpr hbl
  refine lv_aload_n hx hb dL_law_172 rfl (lv_at hl 2 rfl) ?_
  refine W_conV (X := X) (A0 := fun q : Nat => s.heap.size ≤ q) (own := RL) (σ := σ) (C := RX3) (As := []) (rest := []) hx hb hml hown hts hK hSA hsub hP hS hl.1 (rec_of (hLv.1 0 (by decide)) rfl rfl hK hP) (pair_tells hLv hv4 hRel) ml_L_23 im_yX3_tells se_RX3_yX3_tells ini_RX3 co_yX3_tells rfl de_X3_tells ⟨Nat.le_of_ble_eq_true rfl, Nat.le_of_ble_eq_true rfl⟩ ⟨Nat.le_of_ble_eq_true rfl, Nat.le_of_ble_eq_true rfl⟩ rfl (by decide) dL_law_173 ?_
  rintro r u H locs ⟨x, rfl, hC2⟩ hP - - hS
  refine lv_aload_n hx hb dL_law_176 rfl (lv_at hl 1 rfl) ?_
  refine W_conV (X := X) (A0 := fun q : Nat => s.heap.size ≤ q) (own := RL) (σ := u) (C := RX4) (As := []) (rest := [.int x]) hx hb hml hown hts hK hSA hsub hP hS hl.1 (rec_of (hv4 0 (by decide)) rfl rfl hK hP) hC2 ml_L_26 im_yX4_tells se_RX4_yX4_tells ini_RX4 co_yX4_tells rfl de_X4_tells ⟨Nat.le_of_ble_eq_true rfl, Nat.le_of_ble_eq_true rfl⟩ ⟨Nat.le_of_ble_eq_true rfl, Nat.le_of_ble_eq_true rfl⟩ rfl (Nat.le_of_ble_eq_true rfl) dL_law_177 ?_
  rintro r u H locs ⟨rfl, hRel⟩ hP - - hS
  exact lv_icmp_eq (tgt := 722) hx hb dL_law_180 (by decide) (fun _ => kk u H locs hRel hP hS) (fun z => absurd rfl z)
set_option maxHeartbeats 4000000 in
set_option maxRecDepth 100000 in
theorem lc_accepts (C1 : LC X p s m meth c b L xs) (hi5 : i + 5 ≤ L) (hRel : Rel σ) (hP : va_P X.1 vwCl (wl X σ) H) (hS : va_S (fun q : Nat => s.heap.size ≤ q) s.heap H locs) (hl : lv_has ls 4 [(3, .int (nI i)), (2, .ref (adr X 4 0 0)), (1, .ref (adr X 0 0 0)), (0, .ref b)])
    (kk : ∀ σ' H' locs', Rel σ' → va_P X.1 vwCl (wl X σ') H' → va_S (fun q : Nat => s.heap.size ≤ q) s.heap H' locs' → W p l e room_1 s m #[Value.ref b] below meth c H' locs' 155 3776 Q (F0 m 722 ls [])) : W p l e room_1 s m #[Value.ref b] below meth c H locs 155 3776 Q (F0 m 185 ls []) := by
  obtain ⟨⟨hx, hb, hr, hml, hown, hts0, hX, hbl, hlocks, hgv⟩, hK, hSA, hsub, hLv, hv4, hL⟩ := C1
  have hts : ∀ w ∈ tb, w.before #[Value.ref b] s = true := fun w hw => hts0 w (tb_in w hw)
  have hbA : ¬ (fun q : Nat => s.heap.size ≤ q) b := Nat.not_le.mpr hbl
  refine lv_aload_n hx hb dL_law_185 rfl (lv_at hl 2 rfl) ?_
  refine lv_aload_n hx hb dL_law_186 rfl (lv_at hl 3 rfl) ?_
  refine lv_iload_n hx hb dL_law_187 rfl (lv_at hl 0 rfl) ?_
  refine lv_iconst (v := nI 1) hx hb dL_law_188 (by decide) ?_
  refine lv_iadd hx hb dL_law_189 ?_
  refine va_sld hx hb hX hbl hbA hS (by rw [nI_add]; exact vp_in_nI (by omega) (by omega)) dL_law_190 ?_
  refine lv_aload_n hx hb dL_law_191 rfl (lv_at hl 3 rfl) ?_
  refine lv_iload_n hx hb dL_law_192 rfl (lv_at hl 0 rfl) ?_
  refine lv_iconst (v := nI 2) hx hb dL_law_193 (by decide) ?_
  refine lv_iadd hx hb dL_law_194 ?_
  refine va_sld hx hb hX hbl hbA hS (by rw [nI_add]; exact vp_in_nI (by omega) (by omega)) dL_law_195 ?_
  refine W_conV (X := X) (A0 := fun q : Nat => s.heap.size ≤ q) (own := RL) (σ := σ) (C := RX3) (As := [.int (xs (nI i + nI 1).toNatClampNeg), .int (xs (nI i + nI 2).toNatClampNeg)]) (rest := []) hx hb hml hown hts hK hSA hsub hP hS hl.1 (rec_of (hLv.1 0 (by decide)) rfl rfl hK hP) (pair_accepts hLv hv4 hRel) ml_L_27 im_yX3_accepts se_RX3_yX3_accepts ini_RX3 co_yX3_accepts rfl de_X3_accepts ⟨Nat.le_of_ble_eq_true rfl, Nat.le_of_ble_eq_true rfl⟩ ⟨Nat.le_of_ble_eq_true rfl, Nat.le_of_ble_eq_true rfl⟩ rfl (by decide) dL_law_196 ?_
  rintro r u H locs ⟨x, rfl, hC2⟩ hP - - hS
  refine lv_aload_n hx hb dL_law_199 rfl (lv_at hl 1 rfl) ?_
  refine lv_aload_n hx hb dL_law_200 rfl (lv_at hl 3 rfl) ?_
  refine lv_iload_n hx hb dL_law_201 rfl (lv_at hl 0 rfl) ?_
  refine lv_iconst (v := nI 1) hx hb dL_law_202 (by decide) ?_
  refine lv_iadd hx hb dL_law_203 ?_
  refine va_sld hx hb hX hbl hbA hS (by rw [nI_add]; exact vp_in_nI (by omega) (by omega)) dL_law_204 ?_
  refine lv_aload_n hx hb dL_law_205 rfl (lv_at hl 3 rfl) ?_
  refine lv_iload_n hx hb dL_law_206 rfl (lv_at hl 0 rfl) ?_
  refine lv_iconst (v := nI 2) hx hb dL_law_207 (by decide) ?_
  refine lv_iadd hx hb dL_law_208 ?_
  refine va_sld hx hb hX hbl hbA hS (by rw [nI_add]; exact vp_in_nI (by omega) (by omega)) dL_law_209 ?_
  refine W_conV (X := X) (A0 := fun q : Nat => s.heap.size ≤ q) (own := RL) (σ := u) (C := RX4) (As := [.int (xs (nI i + nI 1).toNatClampNeg), .int (xs (nI i + nI 2).toNatClampNeg)]) (rest := [.int x]) hx hb hml hown hts hK hSA hsub hP hS hl.1 (rec_of (hv4 0 (by decide)) rfl rfl hK hP) hC2 ml_L_31 im_yX4_accepts se_RX4_yX4_accepts ini_RX4 co_yX4_accepts rfl de_X4_accepts ⟨Nat.le_of_ble_eq_true rfl, Nat.le_of_ble_eq_true rfl⟩ ⟨Nat.le_of_ble_eq_true rfl, Nat.le_of_ble_eq_true rfl⟩ rfl (Nat.le_of_ble_eq_true rfl) dL_law_210 ?_
  rintro r u H locs ⟨rfl, hRel⟩ hP - - hS
  exact lv_icmp_eq (tgt := 722) hx hb dL_law_213 (by decide) (fun _ => kk u H locs hRel hP hS) (fun z => absurd rfl z)
set_option maxHeartbeats 4000000 in
set_option maxRecDepth 100000 in
theorem lc_passes (C1 : LC X p s m meth c b L xs) (hi5 : i + 5 ≤ L) (hRel : Rel σ) (hP : va_P X.1 vwCl (wl X σ) H) (hS : va_S (fun q : Nat => s.heap.size ≤ q) s.heap H locs) (hl : lv_has ls 4 [(3, .int (nI i)), (2, .ref (adr X 4 0 0)), (1, .ref (adr X 0 0 0)), (0, .ref b)])
    (kk : ∀ σ' H' locs', Rel σ' → va_P X.1 vwCl (wl X σ') H' → va_S (fun q : Nat => s.heap.size ≤ q) s.heap H' locs' → W p l e room_1 s m #[Value.ref b] below meth c H' locs' 155 3776 Q (F0 m 722 ls [])) : W p l e room_1 s m #[Value.ref b] below meth c H locs 155 3776 Q (F0 m 218 ls []) := by
  obtain ⟨⟨hx, hb, hr, hml, hown, hts0, hX, hbl, hlocks, hgv⟩, hK, hSA, hsub, hLv, hv4, hL⟩ := C1
  have hts : ∀ w ∈ tb, w.before #[Value.ref b] s = true := fun w hw => hts0 w (tb_in w hw)
  have hbA : ¬ (fun q : Nat => s.heap.size ≤ q) b := Nat.not_le.mpr hbl
  refine lv_aload_n hx hb dL_law_218 rfl (lv_at hl 2 rfl) ?_
  refine lv_aload_n hx hb dL_law_219 rfl (lv_at hl 3 rfl) ?_
  refine lv_iload_n hx hb dL_law_220 rfl (lv_at hl 0 rfl) ?_
  refine lv_iconst (v := nI 1) hx hb dL_law_221 (by decide) ?_
  refine lv_iadd hx hb dL_law_222 ?_
  refine va_sld hx hb hX hbl hbA hS (by rw [nI_add]; exact vp_in_nI (by omega) (by omega)) dL_law_223 ?_
  refine W_conV (X := X) (A0 := fun q : Nat => s.heap.size ≤ q) (own := RL) (σ := σ) (C := RX3) (As := [.int (xs (nI i + nI 1).toNatClampNeg)]) (rest := []) hx hb hml hown hts hK hSA hsub hP hS hl.1 (rec_of (hLv.1 0 (by decide)) rfl rfl hK hP) (pair_passes hLv hv4 hRel) ml_L_32 im_yX3_passes se_RX3_yX3_passes ini_RX3 co_yX3_passes rfl de_X3_passes ⟨Nat.le_of_ble_eq_true rfl, Nat.le_of_ble_eq_true rfl⟩ ⟨Nat.le_of_ble_eq_true rfl, Nat.le_of_ble_eq_true rfl⟩ rfl (by decide) dL_law_224 ?_
  rintro r u H locs ⟨x, rfl, hC2⟩ hP - - hS
  refine lv_aload_n hx hb dL_law_227 rfl (lv_at hl 1 rfl) ?_
  refine lv_aload_n hx hb dL_law_228 rfl (lv_at hl 3 rfl) ?_
  refine lv_iload_n hx hb dL_law_229 rfl (lv_at hl 0 rfl) ?_
  refine lv_iconst (v := nI 1) hx hb dL_law_230 (by decide) ?_
  refine lv_iadd hx hb dL_law_231 ?_
  refine va_sld hx hb hX hbl hbA hS (by rw [nI_add]; exact vp_in_nI (by omega) (by omega)) dL_law_232 ?_
  refine W_conV (X := X) (A0 := fun q : Nat => s.heap.size ≤ q) (own := RL) (σ := u) (C := RX4) (As := [.int (xs (nI i + nI 1).toNatClampNeg)]) (rest := [.int x]) hx hb hml hown hts hK hSA hsub hP hS hl.1 (rec_of (hv4 0 (by decide)) rfl rfl hK hP) hC2 ml_L_35 im_yX4_passes se_RX4_yX4_passes ini_RX4 co_yX4_passes rfl de_X4_passes ⟨Nat.le_of_ble_eq_true rfl, Nat.le_of_ble_eq_true rfl⟩ ⟨Nat.le_of_ble_eq_true rfl, Nat.le_of_ble_eq_true rfl⟩ rfl (Nat.le_of_ble_eq_true rfl) dL_law_233 ?_
  rintro r u H locs ⟨rfl, hRel⟩ hP - - hS
  exact lv_icmp_eq (tgt := 722) hx hb dL_law_236 (by decide) (fun _ => kk u H locs hRel hP hS) (fun z => absurd rfl z)
set_option maxHeartbeats 4000000 in
set_option maxRecDepth 100000 in
theorem lc_pulls (C1 : LC X p s m meth c b L xs) (hi5 : i + 5 ≤ L) (hRel : Rel σ) (hP : va_P X.1 vwCl (wl X σ) H) (hS : va_S (fun q : Nat => s.heap.size ≤ q) s.heap H locs) (hl : lv_has ls 4 [(3, .int (nI i)), (2, .ref (adr X 4 0 0)), (1, .ref (adr X 0 0 0)), (0, .ref b)])
    (kk : ∀ σ' H' locs', Rel σ' → va_P X.1 vwCl (wl X σ') H' → va_S (fun q : Nat => s.heap.size ≤ q) s.heap H' locs' → W p l e room_1 s m #[Value.ref b] below meth c H' locs' 155 3776 Q (F0 m 722 ls [])) : W p l e room_1 s m #[Value.ref b] below meth c H locs 155 3776 Q (F0 m 241 ls []) := by
  obtain ⟨⟨hx, hb, hr, hml, hown, hts0, hX, hbl, hlocks, hgv⟩, hK, hSA, hsub, hLv, hv4, hL⟩ := C1
  have hts : ∀ w ∈ tb, w.before #[Value.ref b] s = true := fun w hw => hts0 w (tb_in w hw)
  have hbA : ¬ (fun q : Nat => s.heap.size ≤ q) b := Nat.not_le.mpr hbl
  refine lv_aload_n hx hb dL_law_241 rfl (lv_at hl 2 rfl) ?_
  refine lv_aload_n hx hb dL_law_242 rfl (lv_at hl 3 rfl) ?_
  refine lv_iload_n hx hb dL_law_243 rfl (lv_at hl 0 rfl) ?_
  refine lv_iconst (v := nI 1) hx hb dL_law_244 (by decide) ?_
  refine lv_iadd hx hb dL_law_245 ?_
  refine va_sld hx hb hX hbl hbA hS (by rw [nI_add]; exact vp_in_nI (by omega) (by omega)) dL_law_246 ?_
  refine lv_aload_n hx hb dL_law_247 rfl (lv_at hl 3 rfl) ?_
  refine lv_iload_n hx hb dL_law_248 rfl (lv_at hl 0 rfl) ?_
  refine lv_iconst (v := nI 2) hx hb dL_law_249 (by decide) ?_
  refine lv_iadd hx hb dL_law_250 ?_
  refine va_sld hx hb hX hbl hbA hS (by rw [nI_add]; exact vp_in_nI (by omega) (by omega)) dL_law_251 ?_
  refine W_conV (X := X) (A0 := fun q : Nat => s.heap.size ≤ q) (own := RL) (σ := σ) (C := RX3) (As := [.int (xs (nI i + nI 1).toNatClampNeg), .int (xs (nI i + nI 2).toNatClampNeg)]) (rest := []) hx hb hml hown hts hK hSA hsub hP hS hl.1 (rec_of (hLv.1 0 (by decide)) rfl rfl hK hP) (pair_pulls hLv hv4 hRel) ml_L_36 im_yX3_pulls se_RX3_yX3_pulls ini_RX3 co_yX3_pulls rfl de_X3_pulls ⟨Nat.le_of_ble_eq_true rfl, Nat.le_of_ble_eq_true rfl⟩ ⟨Nat.le_of_ble_eq_true rfl, Nat.le_of_ble_eq_true rfl⟩ rfl (by decide) dL_law_252 ?_
  rintro r u H locs ⟨x, rfl, hC2⟩ hP - - hS
  refine lv_aload_n hx hb dL_law_255 rfl (lv_at hl 1 rfl) ?_
  refine lv_aload_n hx hb dL_law_256 rfl (lv_at hl 3 rfl) ?_
  refine lv_iload_n hx hb dL_law_257 rfl (lv_at hl 0 rfl) ?_
  refine lv_iconst (v := nI 1) hx hb dL_law_258 (by decide) ?_
  refine lv_iadd hx hb dL_law_259 ?_
  refine va_sld hx hb hX hbl hbA hS (by rw [nI_add]; exact vp_in_nI (by omega) (by omega)) dL_law_260 ?_
  refine lv_aload_n hx hb dL_law_261 rfl (lv_at hl 3 rfl) ?_
  refine lv_iload_n hx hb dL_law_262 rfl (lv_at hl 0 rfl) ?_
  refine lv_iconst (v := nI 2) hx hb dL_law_263 (by decide) ?_
  refine lv_iadd hx hb dL_law_264 ?_
  refine va_sld hx hb hX hbl hbA hS (by rw [nI_add]; exact vp_in_nI (by omega) (by omega)) dL_law_265 ?_
  refine W_conV (X := X) (A0 := fun q : Nat => s.heap.size ≤ q) (own := RL) (σ := u) (C := RX4) (As := [.int (xs (nI i + nI 1).toNatClampNeg), .int (xs (nI i + nI 2).toNatClampNeg)]) (rest := [.int x]) hx hb hml hown hts hK hSA hsub hP hS hl.1 (rec_of (hv4 0 (by decide)) rfl rfl hK hP) hC2 ml_L_39 im_yX4_pulls se_RX4_yX4_pulls ini_RX4 co_yX4_pulls rfl de_X4_pulls ⟨Nat.le_of_ble_eq_true rfl, Nat.le_of_ble_eq_true rfl⟩ ⟨Nat.le_of_ble_eq_true rfl, Nat.le_of_ble_eq_true rfl⟩ rfl (Nat.le_of_ble_eq_true rfl) dL_law_266 ?_
  rintro r u H locs ⟨rfl, hRel⟩ hP - - hS
  exact lv_icmp_eq (tgt := 722) hx hb dL_law_269 (by decide) (fun _ => kk u H locs hRel hP hS) (fun z => absurd rfl z)
set_option maxHeartbeats 4000000 in
set_option maxRecDepth 100000 in
theorem lc_reads (C1 : LC X p s m meth c b L xs) (hi5 : i + 5 ≤ L) (hRel : Rel σ) (hP : va_P X.1 vwCl (wl X σ) H) (hS : va_S (fun q : Nat => s.heap.size ≤ q) s.heap H locs) (hl : lv_has ls 4 [(3, .int (nI i)), (2, .ref (adr X 4 0 0)), (1, .ref (adr X 0 0 0)), (0, .ref b)])
    (kk : ∀ σ' H' locs', Rel σ' → va_P X.1 vwCl (wl X σ') H' → va_S (fun q : Nat => s.heap.size ≤ q) s.heap H' locs' → W p l e room_1 s m #[Value.ref b] below meth c H' locs' 155 3776 Q (F0 m 722 ls [])) : W p l e room_1 s m #[Value.ref b] below meth c H locs 155 3776 Q (F0 m 274 ls []) := by
  obtain ⟨⟨hx, hb, hr, hml, hown, hts0, hX, hbl, hlocks, hgv⟩, hK, hSA, hsub, hLv, hv4, hL⟩ := C1
  have hts : ∀ w ∈ tb, w.before #[Value.ref b] s = true := fun w hw => hts0 w (tb_in w hw)
  have hbA : ¬ (fun q : Nat => s.heap.size ≤ q) b := Nat.not_le.mpr hbl
  refine lv_aload_n hx hb dL_law_274 rfl (lv_at hl 2 rfl) ?_
  refine lv_aload_n hx hb dL_law_275 rfl (lv_at hl 3 rfl) ?_
  refine lv_iload_n hx hb dL_law_276 rfl (lv_at hl 0 rfl) ?_
  refine lv_iconst (v := nI 1) hx hb dL_law_277 (by decide) ?_
  refine lv_iadd hx hb dL_law_278 ?_
  refine va_sld hx hb hX hbl hbA hS (by rw [nI_add]; exact vp_in_nI (by omega) (by omega)) dL_law_279 ?_
  refine W_conV (X := X) (A0 := fun q : Nat => s.heap.size ≤ q) (own := RL) (σ := σ) (C := RX3) (As := [.int (xs (nI i + nI 1).toNatClampNeg)]) (rest := []) hx hb hml hown hts hK hSA hsub hP hS hl.1 (rec_of (hLv.1 0 (by decide)) rfl rfl hK hP) (pair_reads hLv hv4 hRel) ml_L_40 im_yX3_reads se_RX3_yX3_reads ini_RX3 co_yX3_reads rfl de_X3_reads ⟨Nat.le_of_ble_eq_true rfl, Nat.le_of_ble_eq_true rfl⟩ ⟨Nat.le_of_ble_eq_true rfl, Nat.le_of_ble_eq_true rfl⟩ rfl (by decide) dL_law_280 ?_
  rintro r u H locs ⟨x, rfl, hC2⟩ hP - - hS
  refine lv_aload_n hx hb dL_law_283 rfl (lv_at hl 1 rfl) ?_
  refine lv_aload_n hx hb dL_law_284 rfl (lv_at hl 3 rfl) ?_
  refine lv_iload_n hx hb dL_law_285 rfl (lv_at hl 0 rfl) ?_
  refine lv_iconst (v := nI 1) hx hb dL_law_286 (by decide) ?_
  refine lv_iadd hx hb dL_law_287 ?_
  refine va_sld hx hb hX hbl hbA hS (by rw [nI_add]; exact vp_in_nI (by omega) (by omega)) dL_law_288 ?_
  refine W_conV (X := X) (A0 := fun q : Nat => s.heap.size ≤ q) (own := RL) (σ := u) (C := RX4) (As := [.int (xs (nI i + nI 1).toNatClampNeg)]) (rest := [.int x]) hx hb hml hown hts hK hSA hsub hP hS hl.1 (rec_of (hv4 0 (by decide)) rfl rfl hK hP) hC2 ml_L_43 im_yX4_reads se_RX4_yX4_reads ini_RX4 co_yX4_reads rfl de_X4_reads ⟨Nat.le_of_ble_eq_true rfl, Nat.le_of_ble_eq_true rfl⟩ ⟨Nat.le_of_ble_eq_true rfl, Nat.le_of_ble_eq_true rfl⟩ rfl (Nat.le_of_ble_eq_true rfl) dL_law_289 ?_
  rintro r u H locs ⟨rfl, hRel⟩ hP - - hS
  exact lv_icmp_eq (tgt := 722) hx hb dL_law_292 (by decide) (fun _ => kk u H locs hRel hP hS) (fun z => absurd rfl z)
set_option maxHeartbeats 4000000 in
set_option maxRecDepth 100000 in
theorem lc_moves (C1 : LC X p s m meth c b L xs) (hi5 : i + 5 ≤ L) (hRel : Rel σ) (hP : va_P X.1 vwCl (wl X σ) H) (hS : va_S (fun q : Nat => s.heap.size ≤ q) s.heap H locs) (hl : lv_has ls 4 [(3, .int (nI i)), (2, .ref (adr X 4 0 0)), (1, .ref (adr X 0 0 0)), (0, .ref b)])
    (kk : ∀ σ' H' locs', Rel σ' → va_P X.1 vwCl (wl X σ') H' → va_S (fun q : Nat => s.heap.size ≤ q) s.heap H' locs' → W p l e room_1 s m #[Value.ref b] below meth c H' locs' 155 3776 Q (F0 m 722 ls [])) : W p l e room_1 s m #[Value.ref b] below meth c H locs 155 3776 Q (F0 m 297 ls []) := by
  obtain ⟨⟨hx, hb, hr, hml, hown, hts0, hX, hbl, hlocks, hgv⟩, hK, hSA, hsub, hLv, hv4, hL⟩ := C1
  have hts : ∀ w ∈ tb, w.before #[Value.ref b] s = true := fun w hw => hts0 w (tb_in w hw)
  have hbA : ¬ (fun q : Nat => s.heap.size ≤ q) b := Nat.not_le.mpr hbl
  refine lv_aload_n hx hb dL_law_297 rfl (lv_at hl 2 rfl) ?_
  refine lv_aload_n hx hb dL_law_298 rfl (lv_at hl 3 rfl) ?_
  refine lv_iload_n hx hb dL_law_299 rfl (lv_at hl 0 rfl) ?_
  refine lv_iconst (v := nI 1) hx hb dL_law_300 (by decide) ?_
  refine lv_iadd hx hb dL_law_301 ?_
  refine va_sld hx hb hX hbl hbA hS (by rw [nI_add]; exact vp_in_nI (by omega) (by omega)) dL_law_302 ?_
  refine lv_aload_n hx hb dL_law_303 rfl (lv_at hl 3 rfl) ?_
  refine lv_iload_n hx hb dL_law_304 rfl (lv_at hl 0 rfl) ?_
  refine lv_iconst (v := nI 2) hx hb dL_law_305 (by decide) ?_
  refine lv_iadd hx hb dL_law_306 ?_
  refine va_sld hx hb hX hbl hbA hS (by rw [nI_add]; exact vp_in_nI (by omega) (by omega)) dL_law_307 ?_
  refine lv_aload_n hx hb dL_law_308 rfl (lv_at hl 3 rfl) ?_
  refine lv_iload_n hx hb dL_law_309 rfl (lv_at hl 0 rfl) ?_
  refine lv_iconst (v := nI 3) hx hb dL_law_310 (by decide) ?_
  refine lv_iadd hx hb dL_law_311 ?_
  refine va_sld hx hb hX hbl hbA hS (by rw [nI_add]; exact vp_in_nI (by omega) (by omega)) dL_law_312 ?_
  refine lv_aload_n hx hb dL_law_313 rfl (lv_at hl 3 rfl) ?_
  refine lv_iload_n hx hb dL_law_314 rfl (lv_at hl 0 rfl) ?_
  refine lv_iconst (v := nI 4) hx hb dL_law_315 (by decide) ?_
  refine lv_iadd hx hb dL_law_316 ?_
  refine va_sld hx hb hX hbl hbA hS (by rw [nI_add]; exact vp_in_nI (by omega) (by omega)) dL_law_317 ?_
  refine W_conV (X := X) (A0 := fun q : Nat => s.heap.size ≤ q) (own := RL) (σ := σ) (C := RX3) (As := [.int (xs (nI i + nI 1).toNatClampNeg), .int (xs (nI i + nI 2).toNatClampNeg), .int (xs (nI i + nI 3).toNatClampNeg), .int (xs (nI i + nI 4).toNatClampNeg)]) (rest := []) hx hb hml hown hts hK hSA hsub hP hS hl.1 (rec_of (hLv.1 0 (by decide)) rfl rfl hK hP) (pair_moves hLv hv4 hRel) ml_L_44 im_yX3_moves se_RX3_yX3_moves ini_RX3 co_yX3_moves rfl de_X3_moves ⟨Nat.le_of_ble_eq_true rfl, Nat.le_of_ble_eq_true rfl⟩ ⟨Nat.le_of_ble_eq_true rfl, Nat.le_of_ble_eq_true rfl⟩ rfl (by decide) dL_law_318 ?_
  rintro r u H locs ⟨x, rfl, hC2⟩ hP - - hS
  refine lv_aload_n hx hb dL_law_321 rfl (lv_at hl 1 rfl) ?_
  refine lv_aload_n hx hb dL_law_322 rfl (lv_at hl 3 rfl) ?_
  refine lv_iload_n hx hb dL_law_323 rfl (lv_at hl 0 rfl) ?_
  refine lv_iconst (v := nI 1) hx hb dL_law_324 (by decide) ?_
  refine lv_iadd hx hb dL_law_325 ?_
  refine va_sld hx hb hX hbl hbA hS (by rw [nI_add]; exact vp_in_nI (by omega) (by omega)) dL_law_326 ?_
  refine lv_aload_n hx hb dL_law_327 rfl (lv_at hl 3 rfl) ?_
  refine lv_iload_n hx hb dL_law_328 rfl (lv_at hl 0 rfl) ?_
  refine lv_iconst (v := nI 2) hx hb dL_law_329 (by decide) ?_
  refine lv_iadd hx hb dL_law_330 ?_
  refine va_sld hx hb hX hbl hbA hS (by rw [nI_add]; exact vp_in_nI (by omega) (by omega)) dL_law_331 ?_
  refine lv_aload_n hx hb dL_law_332 rfl (lv_at hl 3 rfl) ?_
  refine lv_iload_n hx hb dL_law_333 rfl (lv_at hl 0 rfl) ?_
  refine lv_iconst (v := nI 3) hx hb dL_law_334 (by decide) ?_
  refine lv_iadd hx hb dL_law_335 ?_
  refine va_sld hx hb hX hbl hbA hS (by rw [nI_add]; exact vp_in_nI (by omega) (by omega)) dL_law_336 ?_
  refine lv_aload_n hx hb dL_law_337 rfl (lv_at hl 3 rfl) ?_
  refine lv_iload_n hx hb dL_law_338 rfl (lv_at hl 0 rfl) ?_
  refine lv_iconst (v := nI 4) hx hb dL_law_339 (by decide) ?_
  refine lv_iadd hx hb dL_law_340 ?_
  refine va_sld hx hb hX hbl hbA hS (by rw [nI_add]; exact vp_in_nI (by omega) (by omega)) dL_law_341 ?_
  refine W_conV (X := X) (A0 := fun q : Nat => s.heap.size ≤ q) (own := RL) (σ := u) (C := RX4) (As := [.int (xs (nI i + nI 1).toNatClampNeg), .int (xs (nI i + nI 2).toNatClampNeg), .int (xs (nI i + nI 3).toNatClampNeg), .int (xs (nI i + nI 4).toNatClampNeg)]) (rest := [.int x]) hx hb hml hown hts hK hSA hsub hP hS hl.1 (rec_of (hv4 0 (by decide)) rfl rfl hK hP) hC2 ml_L_48 im_yX4_moves se_RX4_yX4_moves ini_RX4 co_yX4_moves rfl de_X4_moves ⟨Nat.le_of_ble_eq_true rfl, Nat.le_of_ble_eq_true rfl⟩ ⟨Nat.le_of_ble_eq_true rfl, Nat.le_of_ble_eq_true rfl⟩ rfl (Nat.le_of_ble_eq_true rfl) dL_law_342 ?_
  rintro r u H locs ⟨rfl, hRel⟩ hP - - hS
  exact lv_icmp_eq (tgt := 722) hx hb dL_law_345 (by decide) (fun _ => kk u H locs hRel hP hS) (fun z => absurd rfl z)
set_option maxHeartbeats 4000000 in
set_option maxRecDepth 100000 in
theorem lc_evens (C1 : LC X p s m meth c b L xs) (hi5 : i + 5 ≤ L) (hRel : Rel σ) (hP : va_P X.1 vwCl (wl X σ) H) (hS : va_S (fun q : Nat => s.heap.size ≤ q) s.heap H locs) (hl : lv_has ls 4 [(3, .int (nI i)), (2, .ref (adr X 4 0 0)), (1, .ref (adr X 0 0 0)), (0, .ref b)])
    (kk : ∀ σ' H' locs', Rel σ' → va_P X.1 vwCl (wl X σ') H' → va_S (fun q : Nat => s.heap.size ≤ q) s.heap H' locs' → W p l e room_1 s m #[Value.ref b] below meth c H' locs' 155 3776 Q (F0 m 722 ls [])) : W p l e room_1 s m #[Value.ref b] below meth c H locs 155 3776 Q (F0 m 350 ls []) := by
  obtain ⟨⟨hx, hb, hr, hml, hown, hts0, hX, hbl, hlocks, hgv⟩, hK, hSA, hsub, hLv, hv4, hL⟩ := C1
  have hts : ∀ w ∈ tb, w.before #[Value.ref b] s = true := fun w hw => hts0 w (tb_in w hw)
  have hbA : ¬ (fun q : Nat => s.heap.size ≤ q) b := Nat.not_le.mpr hbl
  refine lv_aload_n hx hb dL_law_350 rfl (lv_at hl 2 rfl) ?_
  refine lv_aload_n hx hb dL_law_351 rfl (lv_at hl 3 rfl) ?_
  refine lv_iload_n hx hb dL_law_352 rfl (lv_at hl 0 rfl) ?_
  refine lv_iconst (v := nI 1) hx hb dL_law_353 (by decide) ?_
  refine lv_iadd hx hb dL_law_354 ?_
  refine va_sld hx hb hX hbl hbA hS (by rw [nI_add]; exact vp_in_nI (by omega) (by omega)) dL_law_355 ?_
  refine W_conV (X := X) (A0 := fun q : Nat => s.heap.size ≤ q) (own := RL) (σ := σ) (C := RX3) (As := [.int (xs (nI i + nI 1).toNatClampNeg)]) (rest := []) hx hb hml hown hts hK hSA hsub hP hS hl.1 (rec_of (hLv.1 0 (by decide)) rfl rfl hK hP) (pair_evens hLv hv4 hRel) ml_L_49 im_yX3_evens se_RX3_yX3_evens ini_RX3 co_yX3_evens rfl de_X3_evens ⟨Nat.le_of_ble_eq_true rfl, Nat.le_of_ble_eq_true rfl⟩ ⟨Nat.le_of_ble_eq_true rfl, Nat.le_of_ble_eq_true rfl⟩ rfl (by decide) dL_law_356 ?_
  rintro r u H locs ⟨x, rfl, hC2⟩ hP - - hS
  refine lv_aload_n hx hb dL_law_359 rfl (lv_at hl 1 rfl) ?_
  refine lv_aload_n hx hb dL_law_360 rfl (lv_at hl 3 rfl) ?_
  refine lv_iload_n hx hb dL_law_361 rfl (lv_at hl 0 rfl) ?_
  refine lv_iconst (v := nI 1) hx hb dL_law_362 (by decide) ?_
  refine lv_iadd hx hb dL_law_363 ?_
  refine va_sld hx hb hX hbl hbA hS (by rw [nI_add]; exact vp_in_nI (by omega) (by omega)) dL_law_364 ?_
  refine W_conV (X := X) (A0 := fun q : Nat => s.heap.size ≤ q) (own := RL) (σ := u) (C := RX4) (As := [.int (xs (nI i + nI 1).toNatClampNeg)]) (rest := [.int x]) hx hb hml hown hts hK hSA hsub hP hS hl.1 (rec_of (hv4 0 (by decide)) rfl rfl hK hP) hC2 ml_L_52 im_yX4_evens se_RX4_yX4_evens ini_RX4 co_yX4_evens rfl de_X4_evens ⟨Nat.le_of_ble_eq_true rfl, Nat.le_of_ble_eq_true rfl⟩ ⟨Nat.le_of_ble_eq_true rfl, Nat.le_of_ble_eq_true rfl⟩ rfl (Nat.le_of_ble_eq_true rfl) dL_law_365 ?_
  rintro r u H locs ⟨rfl, hRel⟩ hP - - hS
  exact lv_icmp_eq (tgt := 722) hx hb dL_law_368 (by decide) (fun _ => kk u H locs hRel hP hS) (fun z => absurd rfl z)
set_option maxHeartbeats 4000000 in
set_option maxRecDepth 100000 in
theorem lc_bounds (C1 : LC X p s m meth c b L xs) (hi5 : i + 5 ≤ L) (hRel : Rel σ) (hP : va_P X.1 vwCl (wl X σ) H) (hS : va_S (fun q : Nat => s.heap.size ≤ q) s.heap H locs) (hl : lv_has ls 4 [(3, .int (nI i)), (2, .ref (adr X 4 0 0)), (1, .ref (adr X 0 0 0)), (0, .ref b)])
    (kk : ∀ σ' H' locs', Rel σ' → va_P X.1 vwCl (wl X σ') H' → va_S (fun q : Nat => s.heap.size ≤ q) s.heap H' locs' → W p l e room_1 s m #[Value.ref b] below meth c H' locs' 155 3776 Q (F0 m 722 ls [])) : W p l e room_1 s m #[Value.ref b] below meth c H locs 155 3776 Q (F0 m 373 ls []) := by
  obtain ⟨⟨hx, hb, hr, hml, hown, hts0, hX, hbl, hlocks, hgv⟩, hK, hSA, hsub, hLv, hv4, hL⟩ := C1
  have hts : ∀ w ∈ tb, w.before #[Value.ref b] s = true := fun w hw => hts0 w (tb_in w hw)
  have hbA : ¬ (fun q : Nat => s.heap.size ≤ q) b := Nat.not_le.mpr hbl
  refine lv_aload_n hx hb dL_law_373 rfl (lv_at hl 2 rfl) ?_
  refine lv_aload_n hx hb dL_law_374 rfl (lv_at hl 3 rfl) ?_
  refine lv_iload_n hx hb dL_law_375 rfl (lv_at hl 0 rfl) ?_
  refine lv_iconst (v := nI 1) hx hb dL_law_376 (by decide) ?_
  refine lv_iadd hx hb dL_law_377 ?_
  refine va_sld hx hb hX hbl hbA hS (by rw [nI_add]; exact vp_in_nI (by omega) (by omega)) dL_law_378 ?_
  refine lv_aload_n hx hb dL_law_379 rfl (lv_at hl 3 rfl) ?_
  refine lv_iload_n hx hb dL_law_380 rfl (lv_at hl 0 rfl) ?_
  refine lv_iconst (v := nI 2) hx hb dL_law_381 (by decide) ?_
  refine lv_iadd hx hb dL_law_382 ?_
  refine va_sld hx hb hX hbl hbA hS (by rw [nI_add]; exact vp_in_nI (by omega) (by omega)) dL_law_383 ?_
  refine lv_aload_n hx hb dL_law_384 rfl (lv_at hl 3 rfl) ?_
  refine lv_iload_n hx hb dL_law_385 rfl (lv_at hl 0 rfl) ?_
  refine lv_iconst (v := nI 3) hx hb dL_law_386 (by decide) ?_
  refine lv_iadd hx hb dL_law_387 ?_
  refine va_sld hx hb hX hbl hbA hS (by rw [nI_add]; exact vp_in_nI (by omega) (by omega)) dL_law_388 ?_
  refine lv_aload_n hx hb dL_law_389 rfl (lv_at hl 3 rfl) ?_
  refine lv_iload_n hx hb dL_law_390 rfl (lv_at hl 0 rfl) ?_
  refine lv_iconst (v := nI 4) hx hb dL_law_391 (by decide) ?_
  refine lv_iadd hx hb dL_law_392 ?_
  refine va_sld hx hb hX hbl hbA hS (by rw [nI_add]; exact vp_in_nI (by omega) (by omega)) dL_law_393 ?_
  refine W_conV (X := X) (A0 := fun q : Nat => s.heap.size ≤ q) (own := RL) (σ := σ) (C := RX3) (As := [.int (xs (nI i + nI 1).toNatClampNeg), .int (xs (nI i + nI 2).toNatClampNeg), .int (xs (nI i + nI 3).toNatClampNeg), .int (xs (nI i + nI 4).toNatClampNeg)]) (rest := []) hx hb hml hown hts hK hSA hsub hP hS hl.1 (rec_of (hLv.1 0 (by decide)) rfl rfl hK hP) (pair_bounds hLv hv4 hRel) ml_L_53 im_yX3_bounds se_RX3_yX3_bounds ini_RX3 co_yX3_bounds rfl de_X3_bounds ⟨Nat.le_of_ble_eq_true rfl, Nat.le_of_ble_eq_true rfl⟩ ⟨Nat.le_of_ble_eq_true rfl, Nat.le_of_ble_eq_true rfl⟩ rfl (by decide) dL_law_394 ?_
  rintro r u H locs ⟨x, rfl, hC2⟩ hP - - hS
  refine lv_aload_n hx hb dL_law_397 rfl (lv_at hl 1 rfl) ?_
  refine lv_aload_n hx hb dL_law_398 rfl (lv_at hl 3 rfl) ?_
  refine lv_iload_n hx hb dL_law_399 rfl (lv_at hl 0 rfl) ?_
  refine lv_iconst (v := nI 1) hx hb dL_law_400 (by decide) ?_
  refine lv_iadd hx hb dL_law_401 ?_
  refine va_sld hx hb hX hbl hbA hS (by rw [nI_add]; exact vp_in_nI (by omega) (by omega)) dL_law_402 ?_
  refine lv_aload_n hx hb dL_law_403 rfl (lv_at hl 3 rfl) ?_
  refine lv_iload_n hx hb dL_law_404 rfl (lv_at hl 0 rfl) ?_
  refine lv_iconst (v := nI 2) hx hb dL_law_405 (by decide) ?_
  refine lv_iadd hx hb dL_law_406 ?_
  refine va_sld hx hb hX hbl hbA hS (by rw [nI_add]; exact vp_in_nI (by omega) (by omega)) dL_law_407 ?_
  refine lv_aload_n hx hb dL_law_408 rfl (lv_at hl 3 rfl) ?_
  refine lv_iload_n hx hb dL_law_409 rfl (lv_at hl 0 rfl) ?_
  refine lv_iconst (v := nI 3) hx hb dL_law_410 (by decide) ?_
  refine lv_iadd hx hb dL_law_411 ?_
  refine va_sld hx hb hX hbl hbA hS (by rw [nI_add]; exact vp_in_nI (by omega) (by omega)) dL_law_412 ?_
  refine lv_aload_n hx hb dL_law_413 rfl (lv_at hl 3 rfl) ?_
  refine lv_iload_n hx hb dL_law_414 rfl (lv_at hl 0 rfl) ?_
  refine lv_iconst (v := nI 4) hx hb dL_law_415 (by decide) ?_
  refine lv_iadd hx hb dL_law_416 ?_
  refine va_sld hx hb hX hbl hbA hS (by rw [nI_add]; exact vp_in_nI (by omega) (by omega)) dL_law_417 ?_
  refine W_conV (X := X) (A0 := fun q : Nat => s.heap.size ≤ q) (own := RL) (σ := u) (C := RX4) (As := [.int (xs (nI i + nI 1).toNatClampNeg), .int (xs (nI i + nI 2).toNatClampNeg), .int (xs (nI i + nI 3).toNatClampNeg), .int (xs (nI i + nI 4).toNatClampNeg)]) (rest := [.int x]) hx hb hml hown hts hK hSA hsub hP hS hl.1 (rec_of (hv4 0 (by decide)) rfl rfl hK hP) hC2 ml_L_56 im_yX4_bounds se_RX4_yX4_bounds ini_RX4 co_yX4_bounds rfl de_X4_bounds ⟨Nat.le_of_ble_eq_true rfl, Nat.le_of_ble_eq_true rfl⟩ ⟨Nat.le_of_ble_eq_true rfl, Nat.le_of_ble_eq_true rfl⟩ rfl (Nat.le_of_ble_eq_true rfl) dL_law_418 ?_
  rintro r u H locs ⟨rfl, hRel⟩ hP - - hS
  exact lv_icmp_eq (tgt := 722) hx hb dL_law_421 (by decide) (fun _ => kk u H locs hRel hP hS) (fun z => absurd rfl z)
set_option maxHeartbeats 4000000 in
set_option maxRecDepth 100000 in
theorem lc_undo (C1 : LC X p s m meth c b L xs) (hi5 : i + 5 ≤ L) (hRel : Rel σ) (hP : va_P X.1 vwCl (wl X σ) H) (hS : va_S (fun q : Nat => s.heap.size ≤ q) s.heap H locs) (hl : lv_has ls 4 [(3, .int (nI i)), (2, .ref (adr X 4 0 0)), (1, .ref (adr X 0 0 0)), (0, .ref b)])
    (kk : ∀ σ' H' locs', Rel σ' → va_P X.1 vwCl (wl X σ') H' → va_S (fun q : Nat => s.heap.size ≤ q) s.heap H' locs' → W p l e room_1 s m #[Value.ref b] below meth c H' locs' 155 3776 Q (F0 m 722 ls [])) : W p l e room_1 s m #[Value.ref b] below meth c H locs 155 3776 Q (F0 m 426 ls []) := by
  obtain ⟨⟨hx, hb, hr, hml, hown, hts0, hX, hbl, hlocks, hgv⟩, hK, hSA, hsub, hLv, hv4, hL⟩ := C1
  have hts : ∀ w ∈ tb, w.before #[Value.ref b] s = true := fun w hw => hts0 w (tb_in w hw)
  have hbA : ¬ (fun q : Nat => s.heap.size ≤ q) b := Nat.not_le.mpr hbl
  refine lv_aload_n hx hb dL_law_426 rfl (lv_at hl 2 rfl) ?_
  refine W_conV (X := X) (A0 := fun q : Nat => s.heap.size ≤ q) (own := RL) (σ := σ) (C := RX3) (As := []) (rest := []) hx hb hml hown hts hK hSA hsub hP hS hl.1 (rec_of (hLv.1 0 (by decide)) rfl rfl hK hP) (pair_undo hLv hv4 hRel) ml_L_57 im_yX3_undo se_RX3_yX3_undo ini_RX3 co_yX3_undo rfl de_X3_undo ⟨Nat.le_of_ble_eq_true rfl, Nat.le_of_ble_eq_true rfl⟩ ⟨Nat.le_of_ble_eq_true rfl, Nat.le_of_ble_eq_true rfl⟩ rfl (by decide) dL_law_427 ?_
  rintro r u H locs ⟨x, rfl, hC2⟩ hP - - hS
  refine lv_aload_n hx hb dL_law_430 rfl (lv_at hl 1 rfl) ?_
  refine W_conV (X := X) (A0 := fun q : Nat => s.heap.size ≤ q) (own := RL) (σ := u) (C := RX4) (As := []) (rest := [.int x]) hx hb hml hown hts hK hSA hsub hP hS hl.1 (rec_of (hv4 0 (by decide)) rfl rfl hK hP) hC2 ml_L_60 im_yX4_undo se_RX4_yX4_undo ini_RX4 co_yX4_undo rfl de_X4_undo ⟨Nat.le_of_ble_eq_true rfl, Nat.le_of_ble_eq_true rfl⟩ ⟨Nat.le_of_ble_eq_true rfl, Nat.le_of_ble_eq_true rfl⟩ rfl (Nat.le_of_ble_eq_true rfl) dL_law_431 ?_
  rintro r u H locs ⟨rfl, hRel⟩ hP - - hS
  exact lv_icmp_eq (tgt := 722) hx hb dL_law_434 (by decide) (fun _ => kk u H locs hRel hP hS) (fun z => absurd rfl z)
set_option maxHeartbeats 4000000 in
set_option maxRecDepth 100000 in
theorem lc_copy (C1 : LC X p s m meth c b L xs) (hi5 : i + 5 ≤ L) (hRel : Rel σ) (hP : va_P X.1 vwCl (wl X σ) H) (hS : va_S (fun q : Nat => s.heap.size ≤ q) s.heap H locs) (hl : lv_has ls 4 [(3, .int (nI i)), (2, .ref (adr X 4 0 0)), (1, .ref (adr X 0 0 0)), (0, .ref b)])
    (kk : ∀ σ' H' locs', Rel σ' → va_P X.1 vwCl (wl X σ') H' → va_S (fun q : Nat => s.heap.size ≤ q) s.heap H' locs' → W p l e room_1 s m #[Value.ref b] below meth c H' locs' 155 3776 Q (F0 m 722 ls [])) : W p l e room_1 s m #[Value.ref b] below meth c H locs 155 3776 Q (F0 m 439 ls []) := by
  obtain ⟨⟨hx, hb, hr, hml, hown, hts0, hX, hbl, hlocks, hgv⟩, hK, hSA, hsub, hLv, hv4, hL⟩ := C1
  have hts : ∀ w ∈ tb, w.before #[Value.ref b] s = true := fun w hw => hts0 w (tb_in w hw)
  have hbA : ¬ (fun q : Nat => s.heap.size ≤ q) b := Nat.not_le.mpr hbl
  refine lv_aload_n hx hb dL_law_439 rfl (lv_at hl 2 rfl) ?_
  refine lv_aload_n hx hb dL_law_440 rfl (lv_at hl 3 rfl) ?_
  refine lv_iload_n hx hb dL_law_441 rfl (lv_at hl 0 rfl) ?_
  refine lv_iconst (v := nI 1) hx hb dL_law_442 (by decide) ?_
  refine lv_iadd hx hb dL_law_443 ?_
  refine va_sld hx hb hX hbl hbA hS (by rw [nI_add]; exact vp_in_nI (by omega) (by omega)) dL_law_444 ?_
  refine lv_aload_n hx hb dL_law_445 rfl (lv_at hl 3 rfl) ?_
  refine lv_iload_n hx hb dL_law_446 rfl (lv_at hl 0 rfl) ?_
  refine lv_iconst (v := nI 2) hx hb dL_law_447 (by decide) ?_
  refine lv_iadd hx hb dL_law_448 ?_
  refine va_sld hx hb hX hbl hbA hS (by rw [nI_add]; exact vp_in_nI (by omega) (by omega)) dL_law_449 ?_
  refine W_conV (X := X) (A0 := fun q : Nat => s.heap.size ≤ q) (own := RL) (σ := σ) (C := RX3) (As := [.int (xs (nI i + nI 1).toNatClampNeg), .int (xs (nI i + nI 2).toNatClampNeg)]) (rest := []) hx hb hml hown hts hK hSA hsub hP hS hl.1 (rec_of (hLv.1 0 (by decide)) rfl rfl hK hP) (pair_copy hLv hv4 hRel) ml_L_61 im_yX3_copy se_RX3_yX3_copy ini_RX3 co_yX3_copy rfl de_X3_copy ⟨Nat.le_of_ble_eq_true rfl, Nat.le_of_ble_eq_true rfl⟩ ⟨Nat.le_of_ble_eq_true rfl, Nat.le_of_ble_eq_true rfl⟩ rfl (by decide) dL_law_450 ?_
  rintro r u H locs ⟨x, rfl, hC2⟩ hP - - hS
  refine lv_aload_n hx hb dL_law_453 rfl (lv_at hl 1 rfl) ?_
  refine lv_aload_n hx hb dL_law_454 rfl (lv_at hl 3 rfl) ?_
  refine lv_iload_n hx hb dL_law_455 rfl (lv_at hl 0 rfl) ?_
  refine lv_iconst (v := nI 1) hx hb dL_law_456 (by decide) ?_
  refine lv_iadd hx hb dL_law_457 ?_
  refine va_sld hx hb hX hbl hbA hS (by rw [nI_add]; exact vp_in_nI (by omega) (by omega)) dL_law_458 ?_
  refine lv_aload_n hx hb dL_law_459 rfl (lv_at hl 3 rfl) ?_
  refine lv_iload_n hx hb dL_law_460 rfl (lv_at hl 0 rfl) ?_
  refine lv_iconst (v := nI 2) hx hb dL_law_461 (by decide) ?_
  refine lv_iadd hx hb dL_law_462 ?_
  refine va_sld hx hb hX hbl hbA hS (by rw [nI_add]; exact vp_in_nI (by omega) (by omega)) dL_law_463 ?_
  refine W_conV (X := X) (A0 := fun q : Nat => s.heap.size ≤ q) (own := RL) (σ := u) (C := RX4) (As := [.int (xs (nI i + nI 1).toNatClampNeg), .int (xs (nI i + nI 2).toNatClampNeg)]) (rest := [.int x]) hx hb hml hown hts hK hSA hsub hP hS hl.1 (rec_of (hv4 0 (by decide)) rfl rfl hK hP) hC2 ml_L_64 im_yX4_copy se_RX4_yX4_copy ini_RX4 co_yX4_copy rfl de_X4_copy ⟨Nat.le_of_ble_eq_true rfl, Nat.le_of_ble_eq_true rfl⟩ ⟨Nat.le_of_ble_eq_true rfl, Nat.le_of_ble_eq_true rfl⟩ rfl (Nat.le_of_ble_eq_true rfl) dL_law_464 ?_
  rintro r u H locs ⟨rfl, hRel⟩ hP - - hS
  exact lv_icmp_eq (tgt := 722) hx hb dL_law_467 (by decide) (fun _ => kk u H locs hRel hP hS) (fun z => absurd rfl z)
set_option maxHeartbeats 4000000 in
set_option maxRecDepth 100000 in
theorem lc_pair (C1 : LC X p s m meth c b L xs) (hi5 : i + 5 ≤ L) (hRel : Rel σ) (hP : va_P X.1 vwCl (wl X σ) H) (hS : va_S (fun q : Nat => s.heap.size ≤ q) s.heap H locs) (hl : lv_has ls 4 [(3, .int (nI i)), (2, .ref (adr X 4 0 0)), (1, .ref (adr X 0 0 0)), (0, .ref b)])
    (kk : ∀ σ' H' locs', Rel σ' → va_P X.1 vwCl (wl X σ') H' → va_S (fun q : Nat => s.heap.size ≤ q) s.heap H' locs' → W p l e room_1 s m #[Value.ref b] below meth c H' locs' 155 3776 Q (F0 m 722 ls [])) : W p l e room_1 s m #[Value.ref b] below meth c H locs 155 3776 Q (F0 m 472 ls []) := by
  obtain ⟨⟨hx, hb, hr, hml, hown, hts0, hX, hbl, hlocks, hgv⟩, hK, hSA, hsub, hLv, hv4, hL⟩ := C1
  have hts : ∀ w ∈ tb, w.before #[Value.ref b] s = true := fun w hw => hts0 w (tb_in w hw)
  have hbA : ¬ (fun q : Nat => s.heap.size ≤ q) b := Nat.not_le.mpr hbl
  refine lv_aload_n hx hb dL_law_472 rfl (lv_at hl 2 rfl) ?_
  refine lv_aload_n hx hb dL_law_473 rfl (lv_at hl 3 rfl) ?_
  refine lv_iload_n hx hb dL_law_474 rfl (lv_at hl 0 rfl) ?_
  refine lv_iconst (v := nI 1) hx hb dL_law_475 (by decide) ?_
  refine lv_iadd hx hb dL_law_476 ?_
  refine va_sld hx hb hX hbl hbA hS (by rw [nI_add]; exact vp_in_nI (by omega) (by omega)) dL_law_477 ?_
  refine lv_aload_n hx hb dL_law_478 rfl (lv_at hl 3 rfl) ?_
  refine lv_iload_n hx hb dL_law_479 rfl (lv_at hl 0 rfl) ?_
  refine lv_iconst (v := nI 2) hx hb dL_law_480 (by decide) ?_
  refine lv_iadd hx hb dL_law_481 ?_
  refine va_sld hx hb hX hbl hbA hS (by rw [nI_add]; exact vp_in_nI (by omega) (by omega)) dL_law_482 ?_
  refine lv_aload_n hx hb dL_law_483 rfl (lv_at hl 3 rfl) ?_
  refine lv_iload_n hx hb dL_law_484 rfl (lv_at hl 0 rfl) ?_
  refine lv_iconst (v := nI 3) hx hb dL_law_485 (by decide) ?_
  refine lv_iadd hx hb dL_law_486 ?_
  refine va_sld hx hb hX hbl hbA hS (by rw [nI_add]; exact vp_in_nI (by omega) (by omega)) dL_law_487 ?_
  refine W_conV (X := X) (A0 := fun q : Nat => s.heap.size ≤ q) (own := RL) (σ := σ) (C := RX3) (As := [.int (xs (nI i + nI 1).toNatClampNeg), .int (xs (nI i + nI 2).toNatClampNeg), .int (xs (nI i + nI 3).toNatClampNeg)]) (rest := []) hx hb hml hown hts hK hSA hsub hP hS hl.1 (rec_of (hLv.1 0 (by decide)) rfl rfl hK hP) (pair_pair hLv hv4 hRel) ml_L_65 im_yX3_pair se_RX3_yX3_pair ini_RX3 co_yX3_pair rfl de_X3_pair ⟨Nat.le_of_ble_eq_true rfl, Nat.le_of_ble_eq_true rfl⟩ ⟨Nat.le_of_ble_eq_true rfl, Nat.le_of_ble_eq_true rfl⟩ rfl (by decide) dL_law_488 ?_
  rintro r u H locs ⟨x, rfl, hC2⟩ hP - - hS
  refine lv_aload_n hx hb dL_law_491 rfl (lv_at hl 1 rfl) ?_
  refine lv_aload_n hx hb dL_law_492 rfl (lv_at hl 3 rfl) ?_
  refine lv_iload_n hx hb dL_law_493 rfl (lv_at hl 0 rfl) ?_
  refine lv_iconst (v := nI 1) hx hb dL_law_494 (by decide) ?_
  refine lv_iadd hx hb dL_law_495 ?_
  refine va_sld hx hb hX hbl hbA hS (by rw [nI_add]; exact vp_in_nI (by omega) (by omega)) dL_law_496 ?_
  refine lv_aload_n hx hb dL_law_497 rfl (lv_at hl 3 rfl) ?_
  refine lv_iload_n hx hb dL_law_498 rfl (lv_at hl 0 rfl) ?_
  refine lv_iconst (v := nI 2) hx hb dL_law_499 (by decide) ?_
  refine lv_iadd hx hb dL_law_500 ?_
  refine va_sld hx hb hX hbl hbA hS (by rw [nI_add]; exact vp_in_nI (by omega) (by omega)) dL_law_501 ?_
  refine lv_aload_n hx hb dL_law_502 rfl (lv_at hl 3 rfl) ?_
  refine lv_iload_n hx hb dL_law_503 rfl (lv_at hl 0 rfl) ?_
  refine lv_iconst (v := nI 3) hx hb dL_law_504 (by decide) ?_
  refine lv_iadd hx hb dL_law_505 ?_
  refine va_sld hx hb hX hbl hbA hS (by rw [nI_add]; exact vp_in_nI (by omega) (by omega)) dL_law_506 ?_
  refine W_conV (X := X) (A0 := fun q : Nat => s.heap.size ≤ q) (own := RL) (σ := u) (C := RX4) (As := [.int (xs (nI i + nI 1).toNatClampNeg), .int (xs (nI i + nI 2).toNatClampNeg), .int (xs (nI i + nI 3).toNatClampNeg)]) (rest := [.int x]) hx hb hml hown hts hK hSA hsub hP hS hl.1 (rec_of (hv4 0 (by decide)) rfl rfl hK hP) hC2 ml_L_69 im_yX4_pair se_RX4_yX4_pair ini_RX4 co_yX4_pair rfl de_X4_pair ⟨Nat.le_of_ble_eq_true rfl, Nat.le_of_ble_eq_true rfl⟩ ⟨Nat.le_of_ble_eq_true rfl, Nat.le_of_ble_eq_true rfl⟩ rfl (Nat.le_of_ble_eq_true rfl) dL_law_507 ?_
  rintro r u H locs ⟨rfl, hRel⟩ hP - - hS
  exact lv_icmp_eq (tgt := 722) hx hb dL_law_510 (by decide) (fun _ => kk u H locs hRel hP hS) (fun z => absurd rfl z)
set_option maxHeartbeats 4000000 in
set_option maxRecDepth 100000 in
theorem lc_write (C1 : LC X p s m meth c b L xs) (hi5 : i + 5 ≤ L) (hRel : Rel σ) (hP : va_P X.1 vwCl (wl X σ) H) (hS : va_S (fun q : Nat => s.heap.size ≤ q) s.heap H locs) (hl : lv_has ls 4 [(3, .int (nI i)), (2, .ref (adr X 4 0 0)), (1, .ref (adr X 0 0 0)), (0, .ref b)])
    (kk : ∀ σ' H' locs', Rel σ' → va_P X.1 vwCl (wl X σ') H' → va_S (fun q : Nat => s.heap.size ≤ q) s.heap H' locs' → W p l e room_1 s m #[Value.ref b] below meth c H' locs' 155 3776 Q (F0 m 722 ls [])) : W p l e room_1 s m #[Value.ref b] below meth c H locs 155 3776 Q (F0 m 515 ls []) := by
  obtain ⟨⟨hx, hb, hr, hml, hown, hts0, hX, hbl, hlocks, hgv⟩, hK, hSA, hsub, hLv, hv4, hL⟩ := C1
  have hts : ∀ w ∈ tb, w.before #[Value.ref b] s = true := fun w hw => hts0 w (tb_in w hw)
  have hbA : ¬ (fun q : Nat => s.heap.size ≤ q) b := Nat.not_le.mpr hbl
  refine lv_aload_n hx hb dL_law_515 rfl (lv_at hl 2 rfl) ?_
  refine lv_aload_n hx hb dL_law_516 rfl (lv_at hl 3 rfl) ?_
  refine lv_iload_n hx hb dL_law_517 rfl (lv_at hl 0 rfl) ?_
  refine lv_iconst (v := nI 1) hx hb dL_law_518 (by decide) ?_
  refine lv_iadd hx hb dL_law_519 ?_
  refine va_sld hx hb hX hbl hbA hS (by rw [nI_add]; exact vp_in_nI (by omega) (by omega)) dL_law_520 ?_
  refine lv_aload_n hx hb dL_law_521 rfl (lv_at hl 3 rfl) ?_
  refine lv_iload_n hx hb dL_law_522 rfl (lv_at hl 0 rfl) ?_
  refine lv_iconst (v := nI 2) hx hb dL_law_523 (by decide) ?_
  refine lv_iadd hx hb dL_law_524 ?_
  refine va_sld hx hb hX hbl hbA hS (by rw [nI_add]; exact vp_in_nI (by omega) (by omega)) dL_law_525 ?_
  refine W_conV (X := X) (A0 := fun q : Nat => s.heap.size ≤ q) (own := RL) (σ := σ) (C := RX3) (As := [.int (xs (nI i + nI 1).toNatClampNeg), .int (xs (nI i + nI 2).toNatClampNeg)]) (rest := []) hx hb hml hown hts hK hSA hsub hP hS hl.1 (rec_of (hLv.1 0 (by decide)) rfl rfl hK hP) (pair_write hLv hv4 hRel) ml_L_70 im_yX3_write se_RX3_yX3_write ini_RX3 co_yX3_write rfl de_X3_write ⟨Nat.le_of_ble_eq_true rfl, Nat.le_of_ble_eq_true rfl⟩ ⟨Nat.le_of_ble_eq_true rfl, Nat.le_of_ble_eq_true rfl⟩ rfl (by decide) dL_law_526 ?_
  rintro r u H locs ⟨x, rfl, hC2⟩ hP - - hS
  refine lv_aload_n hx hb dL_law_529 rfl (lv_at hl 1 rfl) ?_
  refine lv_aload_n hx hb dL_law_530 rfl (lv_at hl 3 rfl) ?_
  refine lv_iload_n hx hb dL_law_531 rfl (lv_at hl 0 rfl) ?_
  refine lv_iconst (v := nI 1) hx hb dL_law_532 (by decide) ?_
  refine lv_iadd hx hb dL_law_533 ?_
  refine va_sld hx hb hX hbl hbA hS (by rw [nI_add]; exact vp_in_nI (by omega) (by omega)) dL_law_534 ?_
  refine lv_aload_n hx hb dL_law_535 rfl (lv_at hl 3 rfl) ?_
  refine lv_iload_n hx hb dL_law_536 rfl (lv_at hl 0 rfl) ?_
  refine lv_iconst (v := nI 2) hx hb dL_law_537 (by decide) ?_
  refine lv_iadd hx hb dL_law_538 ?_
  refine va_sld hx hb hX hbl hbA hS (by rw [nI_add]; exact vp_in_nI (by omega) (by omega)) dL_law_539 ?_
  refine W_conV (X := X) (A0 := fun q : Nat => s.heap.size ≤ q) (own := RL) (σ := u) (C := RX4) (As := [.int (xs (nI i + nI 1).toNatClampNeg), .int (xs (nI i + nI 2).toNatClampNeg)]) (rest := [.int x]) hx hb hml hown hts hK hSA hsub hP hS hl.1 (rec_of (hv4 0 (by decide)) rfl rfl hK hP) hC2 ml_L_73 im_yX4_write se_RX4_yX4_write ini_RX4 co_yX4_write rfl de_X4_write ⟨Nat.le_of_ble_eq_true rfl, Nat.le_of_ble_eq_true rfl⟩ ⟨Nat.le_of_ble_eq_true rfl, Nat.le_of_ble_eq_true rfl⟩ rfl (Nat.le_of_ble_eq_true rfl) dL_law_540 ?_
  rintro r u H locs ⟨rfl, hRel⟩ hP - - hS
  exact lv_icmp_eq (tgt := 722) hx hb dL_law_543 (by decide) (fun _ => kk u H locs hRel hP hS) (fun z => absurd rfl z)
set_option maxHeartbeats 4000000 in
set_option maxRecDepth 100000 in
theorem lc_costs (C1 : LC X p s m meth c b L xs) (hi5 : i + 5 ≤ L) (hRel : Rel σ) (hP : va_P X.1 vwCl (wl X σ) H) (hS : va_S (fun q : Nat => s.heap.size ≤ q) s.heap H locs) (hl : lv_has ls 4 [(3, .int (nI i)), (2, .ref (adr X 4 0 0)), (1, .ref (adr X 0 0 0)), (0, .ref b)])
    (kk : ∀ σ' H' locs', Rel σ' → va_P X.1 vwCl (wl X σ') H' → va_S (fun q : Nat => s.heap.size ≤ q) s.heap H' locs' → W p l e room_1 s m #[Value.ref b] below meth c H' locs' 155 3776 Q (F0 m 722 ls [])) : W p l e room_1 s m #[Value.ref b] below meth c H locs 155 3776 Q (F0 m 548 ls []) := by
  obtain ⟨⟨hx, hb, hr, hml, hown, hts0, hX, hbl, hlocks, hgv⟩, hK, hSA, hsub, hLv, hv4, hL⟩ := C1
  have hts : ∀ w ∈ tb, w.before #[Value.ref b] s = true := fun w hw => hts0 w (tb_in w hw)
  have hbA : ¬ (fun q : Nat => s.heap.size ≤ q) b := Nat.not_le.mpr hbl
  refine lv_aload_n hx hb dL_law_548 rfl (lv_at hl 2 rfl) ?_
  refine lv_aload_n hx hb dL_law_549 rfl (lv_at hl 3 rfl) ?_
  refine lv_iload_n hx hb dL_law_550 rfl (lv_at hl 0 rfl) ?_
  refine lv_iconst (v := nI 1) hx hb dL_law_551 (by decide) ?_
  refine lv_iadd hx hb dL_law_552 ?_
  refine va_sld hx hb hX hbl hbA hS (by rw [nI_add]; exact vp_in_nI (by omega) (by omega)) dL_law_553 ?_
  refine lv_aload_n hx hb dL_law_554 rfl (lv_at hl 3 rfl) ?_
  refine lv_iload_n hx hb dL_law_555 rfl (lv_at hl 0 rfl) ?_
  refine lv_iconst (v := nI 2) hx hb dL_law_556 (by decide) ?_
  refine lv_iadd hx hb dL_law_557 ?_
  refine va_sld hx hb hX hbl hbA hS (by rw [nI_add]; exact vp_in_nI (by omega) (by omega)) dL_law_558 ?_
  refine W_conV (X := X) (A0 := fun q : Nat => s.heap.size ≤ q) (own := RL) (σ := σ) (C := RX3) (As := [.int (xs (nI i + nI 1).toNatClampNeg), .int (xs (nI i + nI 2).toNatClampNeg)]) (rest := []) hx hb hml hown hts hK hSA hsub hP hS hl.1 (rec_of (hLv.1 0 (by decide)) rfl rfl hK hP) (pair_costs hLv hv4 hRel) ml_L_74 im_yX3_costs se_RX3_yX3_costs ini_RX3 co_yX3_costs rfl de_X3_costs ⟨Nat.le_of_ble_eq_true rfl, Nat.le_of_ble_eq_true rfl⟩ ⟨Nat.le_of_ble_eq_true rfl, Nat.le_of_ble_eq_true rfl⟩ rfl (by decide) dL_law_559 ?_
  rintro r u H locs ⟨x, rfl, hC2⟩ hP - - hS
  refine lv_aload_n hx hb dL_law_562 rfl (lv_at hl 1 rfl) ?_
  refine lv_aload_n hx hb dL_law_563 rfl (lv_at hl 3 rfl) ?_
  refine lv_iload_n hx hb dL_law_564 rfl (lv_at hl 0 rfl) ?_
  refine lv_iconst (v := nI 1) hx hb dL_law_565 (by decide) ?_
  refine lv_iadd hx hb dL_law_566 ?_
  refine va_sld hx hb hX hbl hbA hS (by rw [nI_add]; exact vp_in_nI (by omega) (by omega)) dL_law_567 ?_
  refine lv_aload_n hx hb dL_law_568 rfl (lv_at hl 3 rfl) ?_
  refine lv_iload_n hx hb dL_law_569 rfl (lv_at hl 0 rfl) ?_
  refine lv_iconst (v := nI 2) hx hb dL_law_570 (by decide) ?_
  refine lv_iadd hx hb dL_law_571 ?_
  refine va_sld hx hb hX hbl hbA hS (by rw [nI_add]; exact vp_in_nI (by omega) (by omega)) dL_law_572 ?_
  refine W_conV (X := X) (A0 := fun q : Nat => s.heap.size ≤ q) (own := RL) (σ := u) (C := RX4) (As := [.int (xs (nI i + nI 1).toNatClampNeg), .int (xs (nI i + nI 2).toNatClampNeg)]) (rest := [.int x]) hx hb hml hown hts hK hSA hsub hP hS hl.1 (rec_of (hv4 0 (by decide)) rfl rfl hK hP) hC2 ml_L_77 im_yX4_costs se_RX4_yX4_costs ini_RX4 co_yX4_costs rfl de_X4_costs ⟨Nat.le_of_ble_eq_true rfl, Nat.le_of_ble_eq_true rfl⟩ ⟨Nat.le_of_ble_eq_true rfl, Nat.le_of_ble_eq_true rfl⟩ rfl (Nat.le_of_ble_eq_true rfl) dL_law_573 ?_
  rintro r u H locs ⟨rfl, hRel⟩ hP - - hS
  exact lv_icmp_eq (tgt := 722) hx hb dL_law_576 (by decide) (fun _ => kk u H locs hRel hP hS) (fun z => absurd rfl z)
set_option maxHeartbeats 4000000 in
set_option maxRecDepth 100000 in
theorem lc_sees (C1 : LC X p s m meth c b L xs) (hi5 : i + 5 ≤ L) (hRel : Rel σ) (hP : va_P X.1 vwCl (wl X σ) H) (hS : va_S (fun q : Nat => s.heap.size ≤ q) s.heap H locs) (hl : lv_has ls 4 [(3, .int (nI i)), (2, .ref (adr X 4 0 0)), (1, .ref (adr X 0 0 0)), (0, .ref b)])
    (kk : ∀ σ' H' locs', Rel σ' → va_P X.1 vwCl (wl X σ') H' → va_S (fun q : Nat => s.heap.size ≤ q) s.heap H' locs' → W p l e room_1 s m #[Value.ref b] below meth c H' locs' 155 3776 Q (F0 m 722 ls [])) : W p l e room_1 s m #[Value.ref b] below meth c H locs 155 3776 Q (F0 m 581 ls []) := by
  obtain ⟨⟨hx, hb, hr, hml, hown, hts0, hX, hbl, hlocks, hgv⟩, hK, hSA, hsub, hLv, hv4, hL⟩ := C1
  have hts : ∀ w ∈ tb, w.before #[Value.ref b] s = true := fun w hw => hts0 w (tb_in w hw)
  have hbA : ¬ (fun q : Nat => s.heap.size ≤ q) b := Nat.not_le.mpr hbl
  refine lv_aload_n hx hb dL_law_581 rfl (lv_at hl 2 rfl) ?_
  refine lv_aload_n hx hb dL_law_582 rfl (lv_at hl 3 rfl) ?_
  refine lv_iload_n hx hb dL_law_583 rfl (lv_at hl 0 rfl) ?_
  refine lv_iconst (v := nI 1) hx hb dL_law_584 (by decide) ?_
  refine lv_iadd hx hb dL_law_585 ?_
  refine va_sld hx hb hX hbl hbA hS (by rw [nI_add]; exact vp_in_nI (by omega) (by omega)) dL_law_586 ?_
  refine lv_aload_n hx hb dL_law_587 rfl (lv_at hl 3 rfl) ?_
  refine lv_iload_n hx hb dL_law_588 rfl (lv_at hl 0 rfl) ?_
  refine lv_iconst (v := nI 2) hx hb dL_law_589 (by decide) ?_
  refine lv_iadd hx hb dL_law_590 ?_
  refine va_sld hx hb hX hbl hbA hS (by rw [nI_add]; exact vp_in_nI (by omega) (by omega)) dL_law_591 ?_
  refine W_conV (X := X) (A0 := fun q : Nat => s.heap.size ≤ q) (own := RL) (σ := σ) (C := RX3) (As := [.int (xs (nI i + nI 1).toNatClampNeg), .int (xs (nI i + nI 2).toNatClampNeg)]) (rest := []) hx hb hml hown hts hK hSA hsub hP hS hl.1 (rec_of (hLv.1 0 (by decide)) rfl rfl hK hP) (pair_sees hLv hv4 hRel) ml_L_78 im_yX3_sees se_RX3_yX3_sees ini_RX3 co_yX3_sees rfl de_X3_sees ⟨Nat.le_of_ble_eq_true rfl, Nat.le_of_ble_eq_true rfl⟩ ⟨Nat.le_of_ble_eq_true rfl, Nat.le_of_ble_eq_true rfl⟩ rfl (by decide) dL_law_592 ?_
  rintro r u H locs ⟨x, rfl, hC2⟩ hP - - hS
  refine lv_aload_n hx hb dL_law_595 rfl (lv_at hl 1 rfl) ?_
  refine lv_aload_n hx hb dL_law_596 rfl (lv_at hl 3 rfl) ?_
  refine lv_iload_n hx hb dL_law_597 rfl (lv_at hl 0 rfl) ?_
  refine lv_iconst (v := nI 1) hx hb dL_law_598 (by decide) ?_
  refine lv_iadd hx hb dL_law_599 ?_
  refine va_sld hx hb hX hbl hbA hS (by rw [nI_add]; exact vp_in_nI (by omega) (by omega)) dL_law_600 ?_
  refine lv_aload_n hx hb dL_law_601 rfl (lv_at hl 3 rfl) ?_
  refine lv_iload_n hx hb dL_law_602 rfl (lv_at hl 0 rfl) ?_
  refine lv_iconst (v := nI 2) hx hb dL_law_603 (by decide) ?_
  refine lv_iadd hx hb dL_law_604 ?_
  refine va_sld hx hb hX hbl hbA hS (by rw [nI_add]; exact vp_in_nI (by omega) (by omega)) dL_law_605 ?_
  refine W_conV (X := X) (A0 := fun q : Nat => s.heap.size ≤ q) (own := RL) (σ := u) (C := RX4) (As := [.int (xs (nI i + nI 1).toNatClampNeg), .int (xs (nI i + nI 2).toNatClampNeg)]) (rest := [.int x]) hx hb hml hown hts hK hSA hsub hP hS hl.1 (rec_of (hv4 0 (by decide)) rfl rfl hK hP) hC2 ml_L_81 im_yX4_sees se_RX4_yX4_sees ini_RX4 co_yX4_sees rfl de_X4_sees ⟨Nat.le_of_ble_eq_true rfl, Nat.le_of_ble_eq_true rfl⟩ ⟨Nat.le_of_ble_eq_true rfl, Nat.le_of_ble_eq_true rfl⟩ rfl (Nat.le_of_ble_eq_true rfl) dL_law_606 ?_
  rintro r u H locs ⟨rfl, hRel⟩ hP - - hS
  exact lv_icmp_eq (tgt := 722) hx hb dL_law_609 (by decide) (fun _ => kk u H locs hRel hP hS) (fun z => absurd rfl z)
set_option maxHeartbeats 4000000 in
set_option maxRecDepth 100000 in
theorem lc_forget (C1 : LC X p s m meth c b L xs) (hi5 : i + 5 ≤ L) (hRel : Rel σ) (hP : va_P X.1 vwCl (wl X σ) H) (hS : va_S (fun q : Nat => s.heap.size ≤ q) s.heap H locs) (hl : lv_has ls 4 [(3, .int (nI i)), (2, .ref (adr X 4 0 0)), (1, .ref (adr X 0 0 0)), (0, .ref b)])
    (kk : ∀ σ' H' locs', Rel σ' → va_P X.1 vwCl (wl X σ') H' → va_S (fun q : Nat => s.heap.size ≤ q) s.heap H' locs' → W p l e room_1 s m #[Value.ref b] below meth c H' locs' 155 3776 Q (F0 m 722 ls [])) : W p l e room_1 s m #[Value.ref b] below meth c H locs 155 3776 Q (F0 m 614 ls []) := by
  obtain ⟨⟨hx, hb, hr, hml, hown, hts0, hX, hbl, hlocks, hgv⟩, hK, hSA, hsub, hLv, hv4, hL⟩ := C1
  have hts : ∀ w ∈ tb, w.before #[Value.ref b] s = true := fun w hw => hts0 w (tb_in w hw)
  have hbA : ¬ (fun q : Nat => s.heap.size ≤ q) b := Nat.not_le.mpr hbl
  refine lv_aload_n hx hb dL_law_614 rfl (lv_at hl 2 rfl) ?_
  refine W_conV (X := X) (A0 := fun q : Nat => s.heap.size ≤ q) (own := RL) (σ := σ) (C := RX3) (As := []) (rest := []) hx hb hml hown hts hK hSA hsub hP hS hl.1 (rec_of (hLv.1 0 (by decide)) rfl rfl hK hP) (pair_forget hLv hv4 hRel) ml_L_82 im_yX3_forget se_RX3_yX3_forget ini_RX3 co_yX3_forget rfl de_X3_forget ⟨Nat.le_of_ble_eq_true rfl, Nat.le_of_ble_eq_true rfl⟩ ⟨Nat.le_of_ble_eq_true rfl, Nat.le_of_ble_eq_true rfl⟩ rfl (by decide) dL_law_615 ?_
  rintro r u H locs ⟨x, rfl, hC2⟩ hP - - hS
  refine lv_aload_n hx hb dL_law_618 rfl (lv_at hl 1 rfl) ?_
  refine W_conV (X := X) (A0 := fun q : Nat => s.heap.size ≤ q) (own := RL) (σ := u) (C := RX4) (As := []) (rest := [.int x]) hx hb hml hown hts hK hSA hsub hP hS hl.1 (rec_of (hv4 0 (by decide)) rfl rfl hK hP) hC2 ml_L_85 im_yX4_forget se_RX4_yX4_forget ini_RX4 co_yX4_forget rfl de_X4_forget ⟨Nat.le_of_ble_eq_true rfl, Nat.le_of_ble_eq_true rfl⟩ ⟨Nat.le_of_ble_eq_true rfl, Nat.le_of_ble_eq_true rfl⟩ rfl (Nat.le_of_ble_eq_true rfl) dL_law_619 ?_
  rintro r u H locs ⟨rfl, hRel⟩ hP - - hS
  exact lv_icmp_eq (tgt := 722) hx hb dL_law_622 (by decide) (fun _ => kk u H locs hRel hP hS) (fun z => absurd rfl z)
set_option maxHeartbeats 4000000 in
set_option maxRecDepth 100000 in
theorem lc_which (C1 : LC X p s m meth c b L xs) (hi5 : i + 5 ≤ L) (hRel : Rel σ) (hP : va_P X.1 vwCl (wl X σ) H) (hS : va_S (fun q : Nat => s.heap.size ≤ q) s.heap H locs) (hl : lv_has ls 4 [(3, .int (nI i)), (2, .ref (adr X 4 0 0)), (1, .ref (adr X 0 0 0)), (0, .ref b)])
    (kk : ∀ σ' H' locs', Rel σ' → va_P X.1 vwCl (wl X σ') H' → va_S (fun q : Nat => s.heap.size ≤ q) s.heap H' locs' → W p l e room_1 s m #[Value.ref b] below meth c H' locs' 155 3776 Q (F0 m 722 ls [])) : W p l e room_1 s m #[Value.ref b] below meth c H locs 155 3776 Q (F0 m 627 ls []) := by
  obtain ⟨⟨hx, hb, hr, hml, hown, hts0, hX, hbl, hlocks, hgv⟩, hK, hSA, hsub, hLv, hv4, hL⟩ := C1
  have hts : ∀ w ∈ tb, w.before #[Value.ref b] s = true := fun w hw => hts0 w (tb_in w hw)
  have hbA : ¬ (fun q : Nat => s.heap.size ≤ q) b := Nat.not_le.mpr hbl
  refine lv_aload_n hx hb dL_law_627 rfl (lv_at hl 2 rfl) ?_
  refine W_conV (X := X) (A0 := fun q : Nat => s.heap.size ≤ q) (own := RL) (σ := σ) (C := RX3) (As := []) (rest := []) hx hb hml hown hts hK hSA hsub hP hS hl.1 (rec_of (hLv.1 0 (by decide)) rfl rfl hK hP) (pair_which hLv hv4 hRel) ml_L_86 im_yX3_which se_RX3_yX3_which ini_RX3 co_yX3_which rfl de_X3_which ⟨Nat.le_of_ble_eq_true rfl, Nat.le_of_ble_eq_true rfl⟩ ⟨Nat.le_of_ble_eq_true rfl, Nat.le_of_ble_eq_true rfl⟩ rfl (by decide) dL_law_628 ?_
  rintro r u H locs ⟨x, rfl, hC2⟩ hP - - hS
  refine lv_aload_n hx hb dL_law_631 rfl (lv_at hl 1 rfl) ?_
  refine W_conV (X := X) (A0 := fun q : Nat => s.heap.size ≤ q) (own := RL) (σ := u) (C := RX4) (As := []) (rest := [.int x]) hx hb hml hown hts hK hSA hsub hP hS hl.1 (rec_of (hv4 0 (by decide)) rfl rfl hK hP) hC2 ml_L_89 im_yX4_which se_RX4_yX4_which ini_RX4 co_yX4_which rfl de_X4_which ⟨Nat.le_of_ble_eq_true rfl, Nat.le_of_ble_eq_true rfl⟩ ⟨Nat.le_of_ble_eq_true rfl, Nat.le_of_ble_eq_true rfl⟩ rfl (Nat.le_of_ble_eq_true rfl) dL_law_632 ?_
  rintro r u H locs ⟨rfl, hRel⟩ hP - - hS
  exact lv_icmp_eq (tgt := 722) hx hb dL_law_635 (by decide) (fun _ => kk u H locs hRel hP hS) (fun z => absurd rfl z)
set_option maxHeartbeats 4000000 in
set_option maxRecDepth 100000 in
theorem lc_ask (C1 : LC X p s m meth c b L xs) (hi5 : i + 5 ≤ L) (hRel : Rel σ) (hP : va_P X.1 vwCl (wl X σ) H) (hS : va_S (fun q : Nat => s.heap.size ≤ q) s.heap H locs) (hl : lv_has ls 4 [(3, .int (nI i)), (2, .ref (adr X 4 0 0)), (1, .ref (adr X 0 0 0)), (0, .ref b)])
    (kk : ∀ σ' H' locs', Rel σ' → va_P X.1 vwCl (wl X σ') H' → va_S (fun q : Nat => s.heap.size ≤ q) s.heap H' locs' → W p l e room_1 s m #[Value.ref b] below meth c H' locs' 155 3776 Q (F0 m 722 ls [])) : W p l e room_1 s m #[Value.ref b] below meth c H locs 155 3776 Q (F0 m 640 ls []) := by
  obtain ⟨⟨hx, hb, hr, hml, hown, hts0, hX, hbl, hlocks, hgv⟩, hK, hSA, hsub, hLv, hv4, hL⟩ := C1
  have hts : ∀ w ∈ tb, w.before #[Value.ref b] s = true := fun w hw => hts0 w (tb_in w hw)
  have hbA : ¬ (fun q : Nat => s.heap.size ≤ q) b := Nat.not_le.mpr hbl
  refine lv_aload_n hx hb dL_law_640 rfl (lv_at hl 2 rfl) ?_
  refine W_conV (X := X) (A0 := fun q : Nat => s.heap.size ≤ q) (own := RL) (σ := σ) (C := RX3) (As := []) (rest := []) hx hb hml hown hts hK hSA hsub hP hS hl.1 (rec_of (hLv.1 0 (by decide)) rfl rfl hK hP) (pair_ask hLv hv4 hRel) ml_L_90 im_yX3_ask se_RX3_yX3_ask ini_RX3 co_yX3_ask rfl de_X3_ask ⟨Nat.le_of_ble_eq_true rfl, Nat.le_of_ble_eq_true rfl⟩ ⟨Nat.le_of_ble_eq_true rfl, Nat.le_of_ble_eq_true rfl⟩ rfl (by decide) dL_law_641 ?_
  rintro r u H locs ⟨x, rfl, hC2⟩ hP - - hS
  refine lv_aload_n hx hb dL_law_644 rfl (lv_at hl 1 rfl) ?_
  refine W_conV (X := X) (A0 := fun q : Nat => s.heap.size ≤ q) (own := RL) (σ := u) (C := RX4) (As := []) (rest := [.int x]) hx hb hml hown hts hK hSA hsub hP hS hl.1 (rec_of (hv4 0 (by decide)) rfl rfl hK hP) hC2 ml_L_93 im_yX4_ask se_RX4_yX4_ask ini_RX4 co_yX4_ask rfl de_X4_ask ⟨Nat.le_of_ble_eq_true rfl, Nat.le_of_ble_eq_true rfl⟩ ⟨Nat.le_of_ble_eq_true rfl, Nat.le_of_ble_eq_true rfl⟩ rfl (Nat.le_of_ble_eq_true rfl) dL_law_645 ?_
  rintro r u H locs ⟨rfl, hRel⟩ hP - - hS
  exact lv_icmp_eq (tgt := 722) hx hb dL_law_648 (by decide) (fun _ => kk u H locs hRel hP hS) (fun z => absurd rfl z)
set_option maxHeartbeats 4000000 in
set_option maxRecDepth 100000 in
theorem lc_keep (C1 : LC X p s m meth c b L xs) (hi5 : i + 5 ≤ L) (hRel : Rel σ) (hP : va_P X.1 vwCl (wl X σ) H) (hS : va_S (fun q : Nat => s.heap.size ≤ q) s.heap H locs) (hl : lv_has ls 4 [(3, .int (nI i)), (2, .ref (adr X 4 0 0)), (1, .ref (adr X 0 0 0)), (0, .ref b)])
    (kk : ∀ σ' H' locs', Rel σ' → va_P X.1 vwCl (wl X σ') H' → va_S (fun q : Nat => s.heap.size ≤ q) s.heap H' locs' → W p l e room_1 s m #[Value.ref b] below meth c H' locs' 155 3776 Q (F0 m 722 ls [])) : W p l e room_1 s m #[Value.ref b] below meth c H locs 155 3776 Q (F0 m 653 ls []) := by
  obtain ⟨⟨hx, hb, hr, hml, hown, hts0, hX, hbl, hlocks, hgv⟩, hK, hSA, hsub, hLv, hv4, hL⟩ := C1
  have hts : ∀ w ∈ tb, w.before #[Value.ref b] s = true := fun w hw => hts0 w (tb_in w hw)
  have hbA : ¬ (fun q : Nat => s.heap.size ≤ q) b := Nat.not_le.mpr hbl
  refine lv_aload_n hx hb dL_law_653 rfl (lv_at hl 2 rfl) ?_
  refine lv_aload_n hx hb dL_law_654 rfl (lv_at hl 3 rfl) ?_
  refine lv_iload_n hx hb dL_law_655 rfl (lv_at hl 0 rfl) ?_
  refine lv_iconst (v := nI 1) hx hb dL_law_656 (by decide) ?_
  refine lv_iadd hx hb dL_law_657 ?_
  refine va_sld hx hb hX hbl hbA hS (by rw [nI_add]; exact vp_in_nI (by omega) (by omega)) dL_law_658 ?_
  refine W_conV (X := X) (A0 := fun q : Nat => s.heap.size ≤ q) (own := RL) (σ := σ) (C := RX3) (As := [.int (xs (nI i + nI 1).toNatClampNeg)]) (rest := []) hx hb hml hown hts hK hSA hsub hP hS hl.1 (rec_of (hLv.1 0 (by decide)) rfl rfl hK hP) (pair_keep hLv hv4 hRel) ml_L_94 im_yX3_keep se_RX3_yX3_keep ini_RX3 co_yX3_keep rfl de_X3_keep ⟨Nat.le_of_ble_eq_true rfl, Nat.le_of_ble_eq_true rfl⟩ ⟨Nat.le_of_ble_eq_true rfl, Nat.le_of_ble_eq_true rfl⟩ rfl (by decide) dL_law_659 ?_
  rintro r u H locs ⟨x, rfl, hC2⟩ hP - - hS
  refine lv_aload_n hx hb dL_law_662 rfl (lv_at hl 1 rfl) ?_
  refine lv_aload_n hx hb dL_law_663 rfl (lv_at hl 3 rfl) ?_
  refine lv_iload_n hx hb dL_law_664 rfl (lv_at hl 0 rfl) ?_
  refine lv_iconst (v := nI 1) hx hb dL_law_665 (by decide) ?_
  refine lv_iadd hx hb dL_law_666 ?_
  refine va_sld hx hb hX hbl hbA hS (by rw [nI_add]; exact vp_in_nI (by omega) (by omega)) dL_law_667 ?_
  refine W_conV (X := X) (A0 := fun q : Nat => s.heap.size ≤ q) (own := RL) (σ := u) (C := RX4) (As := [.int (xs (nI i + nI 1).toNatClampNeg)]) (rest := [.int x]) hx hb hml hown hts hK hSA hsub hP hS hl.1 (rec_of (hv4 0 (by decide)) rfl rfl hK hP) hC2 ml_L_97 im_yX4_keep se_RX4_yX4_keep ini_RX4 co_yX4_keep rfl de_X4_keep ⟨Nat.le_of_ble_eq_true rfl, Nat.le_of_ble_eq_true rfl⟩ ⟨Nat.le_of_ble_eq_true rfl, Nat.le_of_ble_eq_true rfl⟩ rfl (Nat.le_of_ble_eq_true rfl) dL_law_668 ?_
  rintro r u H locs ⟨rfl, hRel⟩ hP - - hS
  exact lv_icmp_eq (tgt := 722) hx hb dL_law_671 (by decide) (fun _ => kk u H locs hRel hP hS) (fun z => absurd rfl z)
set_option maxHeartbeats 4000000 in
set_option maxRecDepth 100000 in
theorem lc_back (C1 : LC X p s m meth c b L xs) (hi5 : i + 5 ≤ L) (hRel : Rel σ) (hP : va_P X.1 vwCl (wl X σ) H) (hS : va_S (fun q : Nat => s.heap.size ≤ q) s.heap H locs) (hl : lv_has ls 4 [(3, .int (nI i)), (2, .ref (adr X 4 0 0)), (1, .ref (adr X 0 0 0)), (0, .ref b)])
    (kk : ∀ σ' H' locs', Rel σ' → va_P X.1 vwCl (wl X σ') H' → va_S (fun q : Nat => s.heap.size ≤ q) s.heap H' locs' → W p l e room_1 s m #[Value.ref b] below meth c H' locs' 155 3776 Q (F0 m 722 ls [])) : W p l e room_1 s m #[Value.ref b] below meth c H locs 155 3776 Q (F0 m 676 ls []) := by
  obtain ⟨⟨hx, hb, hr, hml, hown, hts0, hX, hbl, hlocks, hgv⟩, hK, hSA, hsub, hLv, hv4, hL⟩ := C1
  have hts : ∀ w ∈ tb, w.before #[Value.ref b] s = true := fun w hw => hts0 w (tb_in w hw)
  have hbA : ¬ (fun q : Nat => s.heap.size ≤ q) b := Nat.not_le.mpr hbl
  refine lv_aload_n hx hb dL_law_676 rfl (lv_at hl 2 rfl) ?_
  refine lv_aload_n hx hb dL_law_677 rfl (lv_at hl 3 rfl) ?_
  refine lv_iload_n hx hb dL_law_678 rfl (lv_at hl 0 rfl) ?_
  refine lv_iconst (v := nI 1) hx hb dL_law_679 (by decide) ?_
  refine lv_iadd hx hb dL_law_680 ?_
  refine va_sld hx hb hX hbl hbA hS (by rw [nI_add]; exact vp_in_nI (by omega) (by omega)) dL_law_681 ?_
  refine W_conV (X := X) (A0 := fun q : Nat => s.heap.size ≤ q) (own := RL) (σ := σ) (C := RX3) (As := [.int (xs (nI i + nI 1).toNatClampNeg)]) (rest := []) hx hb hml hown hts hK hSA hsub hP hS hl.1 (rec_of (hLv.1 0 (by decide)) rfl rfl hK hP) (pair_back hLv hv4 hRel) ml_L_98 im_yX3_back se_RX3_yX3_back ini_RX3 co_yX3_back rfl de_X3_back ⟨Nat.le_of_ble_eq_true rfl, Nat.le_of_ble_eq_true rfl⟩ ⟨Nat.le_of_ble_eq_true rfl, Nat.le_of_ble_eq_true rfl⟩ rfl (by decide) dL_law_682 ?_
  rintro r u H locs ⟨x, rfl, hC2⟩ hP - - hS
  refine lv_aload_n hx hb dL_law_685 rfl (lv_at hl 1 rfl) ?_
  refine lv_aload_n hx hb dL_law_686 rfl (lv_at hl 3 rfl) ?_
  refine lv_iload_n hx hb dL_law_687 rfl (lv_at hl 0 rfl) ?_
  refine lv_iconst (v := nI 1) hx hb dL_law_688 (by decide) ?_
  refine lv_iadd hx hb dL_law_689 ?_
  refine va_sld hx hb hX hbl hbA hS (by rw [nI_add]; exact vp_in_nI (by omega) (by omega)) dL_law_690 ?_
  refine W_conV (X := X) (A0 := fun q : Nat => s.heap.size ≤ q) (own := RL) (σ := u) (C := RX4) (As := [.int (xs (nI i + nI 1).toNatClampNeg)]) (rest := [.int x]) hx hb hml hown hts hK hSA hsub hP hS hl.1 (rec_of (hv4 0 (by decide)) rfl rfl hK hP) hC2 ml_L_101 im_yX4_back se_RX4_yX4_back ini_RX4 co_yX4_back rfl de_X4_back ⟨Nat.le_of_ble_eq_true rfl, Nat.le_of_ble_eq_true rfl⟩ ⟨Nat.le_of_ble_eq_true rfl, Nat.le_of_ble_eq_true rfl⟩ rfl (Nat.le_of_ble_eq_true rfl) dL_law_691 ?_
  rintro r u H locs ⟨rfl, hRel⟩ hP - - hS
  exact lv_icmp_eq (tgt := 722) hx hb dL_law_694 (by decide) (fun _ => kk u H locs hRel hP hS) (fun z => absurd rfl z)
set_option maxHeartbeats 4000000 in
set_option maxRecDepth 100000 in
theorem lc_count (C1 : LC X p s m meth c b L xs) (hi5 : i + 5 ≤ L) (hRel : Rel σ) (hP : va_P X.1 vwCl (wl X σ) H) (hS : va_S (fun q : Nat => s.heap.size ≤ q) s.heap H locs) (hl : lv_has ls 4 [(3, .int (nI i)), (2, .ref (adr X 4 0 0)), (1, .ref (adr X 0 0 0)), (0, .ref b)])
    (kk : ∀ σ' H' locs', Rel σ' → va_P X.1 vwCl (wl X σ') H' → va_S (fun q : Nat => s.heap.size ≤ q) s.heap H' locs' → W p l e room_1 s m #[Value.ref b] below meth c H' locs' 155 3776 Q (F0 m 722 ls [])) : W p l e room_1 s m #[Value.ref b] below meth c H locs 155 3776 Q (F0 m 699 ls []) := by
  obtain ⟨⟨hx, hb, hr, hml, hown, hts0, hX, hbl, hlocks, hgv⟩, hK, hSA, hsub, hLv, hv4, hL⟩ := C1
  have hts : ∀ w ∈ tb, w.before #[Value.ref b] s = true := fun w hw => hts0 w (tb_in w hw)
  have hbA : ¬ (fun q : Nat => s.heap.size ≤ q) b := Nat.not_le.mpr hbl
  refine lv_aload_n hx hb dL_law_699 rfl (lv_at hl 2 rfl) ?_
  refine lv_aload_n hx hb dL_law_700 rfl (lv_at hl 3 rfl) ?_
  refine lv_iload_n hx hb dL_law_701 rfl (lv_at hl 0 rfl) ?_
  refine lv_iconst (v := nI 1) hx hb dL_law_702 (by decide) ?_
  refine lv_iadd hx hb dL_law_703 ?_
  refine va_sld hx hb hX hbl hbA hS (by rw [nI_add]; exact vp_in_nI (by omega) (by omega)) dL_law_704 ?_
  refine W_conV (X := X) (A0 := fun q : Nat => s.heap.size ≤ q) (own := RL) (σ := σ) (C := RX3) (As := [.int (xs (nI i + nI 1).toNatClampNeg)]) (rest := []) hx hb hml hown hts hK hSA hsub hP hS hl.1 (rec_of (hLv.1 0 (by decide)) rfl rfl hK hP) (pair_count hLv hv4 hRel) ml_L_102 im_yX3_count se_RX3_yX3_count ini_RX3 co_yX3_count rfl de_X3_count ⟨Nat.le_of_ble_eq_true rfl, Nat.le_of_ble_eq_true rfl⟩ ⟨Nat.le_of_ble_eq_true rfl, Nat.le_of_ble_eq_true rfl⟩ rfl (by decide) dL_law_705 ?_
  rintro r u H locs ⟨x, rfl, hC2⟩ hP - - hS
  refine lv_aload_n hx hb dL_law_708 rfl (lv_at hl 1 rfl) ?_
  refine lv_aload_n hx hb dL_law_709 rfl (lv_at hl 3 rfl) ?_
  refine lv_iload_n hx hb dL_law_710 rfl (lv_at hl 0 rfl) ?_
  refine lv_iconst (v := nI 1) hx hb dL_law_711 (by decide) ?_
  refine lv_iadd hx hb dL_law_712 ?_
  refine va_sld hx hb hX hbl hbA hS (by rw [nI_add]; exact vp_in_nI (by omega) (by omega)) dL_law_713 ?_
  refine W_conV (X := X) (A0 := fun q : Nat => s.heap.size ≤ q) (own := RL) (σ := u) (C := RX4) (As := [.int (xs (nI i + nI 1).toNatClampNeg)]) (rest := [.int x]) hx hb hml hown hts hK hSA hsub hP hS hl.1 (rec_of (hv4 0 (by decide)) rfl rfl hK hP) hC2 ml_L_105 im_yX4_count se_RX4_yX4_count ini_RX4 co_yX4_count rfl de_X4_count ⟨Nat.le_of_ble_eq_true rfl, Nat.le_of_ble_eq_true rfl⟩ ⟨Nat.le_of_ble_eq_true rfl, Nat.le_of_ble_eq_true rfl⟩ rfl (Nat.le_of_ble_eq_true rfl) dL_law_714 ?_
  rintro r u H locs ⟨rfl, hRel⟩ hP - - hS
  exact lv_icmp_eq (tgt := 722) hx hb dL_law_717 (by decide) (fun _ => kk u H locs hRel hP hS) (fun z => absurd rfl z)
end LAWC
