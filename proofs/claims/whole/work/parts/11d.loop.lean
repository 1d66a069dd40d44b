set_option maxHeartbeats 4000000 in
set_option maxRecDepth 100000 in
/-- the law's loop: both worlds together at its head -/
theorem law_loop {p : Program} {l : Launch} {e : Env} {s : State} {m : MethodId} {below : List Frame} {meth : Method} {c : Code} {X : Cx} {b L : Nat} {xs : Nat → Int32} (C1 : LC X p s m meth c b L xs) :
    ∀ (n i : Nat), i ≤ L + 5 → L + 6 ≤ i + n → ∀ (σ : Hp) (H : Heap) (locs : List Loc) (ls : Array Slot), Rel σ → va_P X.1 vwCl (wl X σ) H → va_S (fun q : Nat => s.heap.size ≤ q) s.heap H locs → lv_has ls 4 [(3, .int (nI i)), (2, .ref (adr X 4 0 0)), (1, .ref (adr X 0 0 0)), (0, .ref b)] → W p l e room_1 s m #[Value.ref b] below meth c H locs 155 3776 (lw_Z below #[Value.ref b] s) (F0 m 18 ls []) := by
  obtain ⟨⟨hx, hb, hr, hml, hown, hts0, hX, hbl, hlocks, hgv⟩, hK, hSA, hsub, hLv, hv4, hL⟩ := id C1
  have hbA : ¬ (fun q : Nat => s.heap.size ≤ q) b := Nat.not_le.mpr hbl
  intro n
  induction n with
  | zero =>
    intro i h1 h2
    exact absurd h2 (by omega)
  | succ n ih =>
    intro i h1 h2 σ H locs ls hRel hP hS hl
    refine lv_iload_n hx hb dL_law_18 rfl (lv_at hl 0 rfl) ?_
    refine lv_aload_n hx hb dL_law_19 rfl (lv_at hl 3 rfl) ?_
    refine va_slen hx hb hX hbl hbA hS dL_law_20 ?_
    refine lv_iconst (v := nI 5) hx hb dL_law_21 (by decide) ?_
    refine lv_isub hx hb dL_law_22 ?_
    refine lv_icmp_gt (tgt := 728) hx hb dL_law_23 (by decide) (fun _ => ?_) (fun hn => ?_)
    · refine lv_iconst (v := 1) hx hb dL_law_728 (by decide) ?_
      refine va_forget (fun q hq => hS.2.2 q hq) ?_
      refine W.widen (k := 600000) (n := 7302250) (Nat.le_of_ble_eq_true rfl) (Nat.le_of_ble_eq_true rfl) ?_
      exact lw_ret hx hb hr hlocks dL_law_729
    · have hi5 : i + 5 ≤ L := by
        have hn : ¬ nI L - nI 5 < nI i := hn
        rw [Int32.lt_iff_toInt_lt, pk_sub_toInt (by omega) (by decide), nI_toInt (by omega)] at hn
        omega
      have step : ∀ σ' H' locs', Rel σ' → va_P X.1 vwCl (wl X σ') H' → va_S (fun q : Nat => s.heap.size ≤ q) s.heap H' locs' → W p l e room_1 s m #[Value.ref b] below meth c H' locs' 155 3776 (lw_Z below #[Value.ref b] s) (F0 m 722 ls []) := by
        intro σ' H' locs' hRel' hP' hS'
        refine lv_iinc (v := nI (i + 5)) (lv' := [(3, .int (nI (i + 5))), (2, .ref (adr X 4 0 0)), (1, .ref (adr X 0 0 0)), (0, .ref b)]) hx hb dL_law_722 hl (k := 0) rfl (nI_add i 5) (by decide) rfl (fun ls' hl' => ?_)
        refine lv_goto (tgt := 18) hx hb dL_law_725 (by decide) ?_
        exact ih (i + 5) (by omega) (by omega) σ' H' locs' ls' hRel' hP' hS' hl'
      refine lv_aload_n hx hb dL_law_26 rfl (lv_at hl 3 rfl) ?_
      refine lv_iload_n hx hb dL_law_27 rfl (lv_at hl 0 rfl) ?_
      refine va_sld hx hb hX hbl hbA hS (vp_in_nI (by omega) (by omega)) dL_law_28 ?_
      refine lv_bipush (v := nI 31) hx hb dL_law_29 (by decide) ?_
      refine lv_iand hx hb dL_law_31 ?_
      obtain ⟨k, hk, ek⟩ := and31 (xs (nI i).toNatClampNeg)
      rw [ek]
      match k, hk with
      | 0, _ => exact lv_tableIn (tgt := 136) (off := 104) hx hb dL_law_32 (by decide) (by decide) (by decide) (by decide) (lc_type C1 hi5 hRel hP hS hl step)
      | 1, _ => exact lv_tableIn (tgt := 159) (off := 127) hx hb dL_law_32 (by decide) (by decide) (by decide) (by decide) (lc_clear C1 hi5 hRel hP hS hl step)
      | 2, _ => exact lv_tableIn (tgt := 172) (off := 140) hx hb dL_law_32 (by decide) (by decide) (by decide) (by decide) (lc_tells C1 hi5 hRel hP hS hl step)
      | 3, _ => exact lv_tableIn (tgt := 185) (off := 153) hx hb dL_law_32 (by decide) (by decide) (by decide) (by decide) (lc_accepts C1 hi5 hRel hP hS hl step)
      | 4, _ => exact lv_tableIn (tgt := 218) (off := 186) hx hb dL_law_32 (by decide) (by decide) (by decide) (by decide) (lc_passes C1 hi5 hRel hP hS hl step)
      | 5, _ => exact lv_tableIn (tgt := 241) (off := 209) hx hb dL_law_32 (by decide) (by decide) (by decide) (by decide) (lc_pulls C1 hi5 hRel hP hS hl step)
      | 6, _ => exact lv_tableIn (tgt := 274) (off := 242) hx hb dL_law_32 (by decide) (by decide) (by decide) (by decide) (lc_reads C1 hi5 hRel hP hS hl step)
      | 7, _ => exact lv_tableIn (tgt := 297) (off := 265) hx hb dL_law_32 (by decide) (by decide) (by decide) (by decide) (lc_moves C1 hi5 hRel hP hS hl step)
      | 8, _ => exact lv_tableIn (tgt := 350) (off := 318) hx hb dL_law_32 (by decide) (by decide) (by decide) (by decide) (lc_evens C1 hi5 hRel hP hS hl step)
      | 9, _ => exact lv_tableIn (tgt := 373) (off := 341) hx hb dL_law_32 (by decide) (by decide) (by decide) (by decide) (lc_bounds C1 hi5 hRel hP hS hl step)
      | 10, _ => exact lv_tableIn (tgt := 426) (off := 394) hx hb dL_law_32 (by decide) (by decide) (by decide) (by decide) (lc_undo C1 hi5 hRel hP hS hl step)
      | 11, _ => exact lv_tableIn (tgt := 439) (off := 407) hx hb dL_law_32 (by decide) (by decide) (by decide) (by decide) (lc_copy C1 hi5 hRel hP hS hl step)
      | 12, _ => exact lv_tableIn (tgt := 472) (off := 440) hx hb dL_law_32 (by decide) (by decide) (by decide) (by decide) (lc_pair C1 hi5 hRel hP hS hl step)
      | 13, _ => exact lv_tableIn (tgt := 515) (off := 483) hx hb dL_law_32 (by decide) (by decide) (by decide) (by decide) (lc_write C1 hi5 hRel hP hS hl step)
      | 14, _ => exact lv_tableIn (tgt := 548) (off := 516) hx hb dL_law_32 (by decide) (by decide) (by decide) (by decide) (lc_costs C1 hi5 hRel hP hS hl step)
      | 15, _ => exact lv_tableIn (tgt := 581) (off := 549) hx hb dL_law_32 (by decide) (by decide) (by decide) (by decide) (lc_sees C1 hi5 hRel hP hS hl step)
      | 16, _ => exact lv_tableIn (tgt := 614) (off := 582) hx hb dL_law_32 (by decide) (by decide) (by decide) (by decide) (lc_forget C1 hi5 hRel hP hS hl step)
      | 17, _ => exact lv_tableIn (tgt := 627) (off := 595) hx hb dL_law_32 (by decide) (by decide) (by decide) (by decide) (lc_which C1 hi5 hRel hP hS hl step)
      | 18, _ => exact lv_tableIn (tgt := 640) (off := 608) hx hb dL_law_32 (by decide) (by decide) (by decide) (by decide) (lc_ask C1 hi5 hRel hP hS hl step)
      | 19, _ => exact lv_tableIn (tgt := 653) (off := 621) hx hb dL_law_32 (by decide) (by decide) (by decide) (by decide) (lc_keep C1 hi5 hRel hP hS hl step)
      | 20, _ => exact lv_tableIn (tgt := 676) (off := 644) hx hb dL_law_32 (by decide) (by decide) (by decide) (by decide) (lc_back C1 hi5 hRel hP hS hl step)
      | 21, _ => exact lv_tableIn (tgt := 699) (off := 667) hx hb dL_law_32 (by decide) (by decide) (by decide) (by decide) (lc_count C1 hi5 hRel hP hS hl step)
      | k + 22, hk => exact lv_tableOut (tgt := 722) hx hb dL_law_32 (Or.inr (by rw [nI_toInt (by omega)]; omega)) (by decide) (step σ H locs hRel hP hS)
set_option maxHeartbeats 4000000 in
set_option maxRecDepth 100000 in
theorem whole_start {p : Program} {e : Env} {s : State} {m : MethodId} {below : List Frame} {meth : Method} {c : Code} (l : Launch) (hflags : l.flags = flags0) {b L : Nat} {xs : Nat → Int32} (hL : L ≤ 2560) (C0 : lw_At p s m meth c b L xs) : W p l e room_1 s m #[Value.ref b] below meth c s.heap [] 0 0 (lw_Z below #[Value.ref b] s) (entryFrame m ([Value.ref b] : List Value).toArray 4) := by
  obtain ⟨hx, hb, hr, hml, hown, hts0, hX, hbl, hlocks, hgv⟩ := id C0
  obtain ⟨X, hid, hB, hSA⟩ := base_ok C0
  have hts : ∀ w ∈ tb, w.before #[Value.ref b] s = true := fun w hw => hts0 w (tb_in w hw)
  have hA : ∀ q : Nat, s.heap.size ≤ q → (fun q : Nat => s.heap.size ≤ q) q := fun _ h => h
  have hown : s.vm.findClass RL = some m.cls := hown
  have hS : va_S (fun q : Nat => s.heap.size ≤ q) s.heap s.heap [] := va_S.rf
  have hP : va_P X.1 vwCl ([] : va_W) s.heap := fun k q h => by simp at h
  have hD : va_D (fun q : Nat => s.heap.size ≤ q) ([] : va_W) := ⟨fun i j p q h => by simp at h, fun k q h => by simp at h⟩
  have hl := lv_entry ([.ref b]) (n := 4) (Nat.le_of_ble_eq_true rfl)
  rw [lg_entry_eq]
  generalize (lg_sl ([.ref b]) ++ List.replicate (4 - (lg_sl ([.ref b])).length) Slot.unset).toArray = ls at hl ⊢
  have hl : lv_has ls 4 [(0, .ref b)] := hl
  refine W_newC (X := X) (A0 := fun q : Nat => s.heap.size ≤ q) (own := RL) (C := RX3) (Tt := TX3) (N := 10) (ci := 3) (fs := [.null, .null, .null, .null, .null, .null, .null, .null, .int 0, .null]) n_X3 hx hb hml hown hts hB hSA hP hD hS hA hl.1 inX3 tyX3 tyX3_ok cl_L_7 ins_RX3_10 ini_RX3 rfl (by decide) ml_L_9 im_yX3_init co_yX3_init rfl rfl de_X3_init ⟨Nat.le_of_ble_eq_true rfl, Nat.le_of_ble_eq_true rfl⟩ ⟨Nat.le_of_ble_eq_true rfl, Nat.le_of_ble_eq_true rfl⟩ (by decide) dL_law_0 dL_law_3 dL_law_4 (fun q ws1 H locs hq hP hD hS => ?_)
  obtain ⟨o, a0, a1, hi, al, fr, tx, fi, b0, b1, rfl, hfr, hf0, hf1, rfl⟩ := hq
  refine lv_astore_n (lv' := [(1, .ref (o 0)), (0, .ref b)]) hx hb dL_law_7 rfl hl (by decide) rfl (fun ls hl => ?_)
  refine W_newC (X := X) (A0 := fun q : Nat => s.heap.size ≤ q) (own := RL) (C := RX4) (Tt := TX4) (N := 17) (ci := 4) (fs := [.null, .null, .null, .null, .int 0, .null, .null, .null, .int 0, .int 0, .int 0, .int 0, .int 0, .null, .null, .int 0, .int 0]) n_X4 hx hb hml hown hts hB hSA hP hD hS hA hl.1 inX4 tyX4 tyX4_ok cl_L_10 ins_RX4_17 ini_RX4 rfl (by decide) ml_L_12 im_yX4_init co_yX4_init rfl rfl de_X4_init ⟨Nat.le_of_ble_eq_true rfl, Nat.le_of_ble_eq_true rfl⟩ ⟨Nat.le_of_ble_eq_true rfl, Nat.le_of_ble_eq_true rfl⟩ (by decide) dL_law_8 dL_law_11 dL_law_12 (fun q ws2 H locs hq hP hD hS => ?_)
  obtain ⟨md, rfl, rfl⟩ := hq
  refine lv_astore_n (lv' := [(2, .ref (md 0)), (1, .ref (o 0)), (0, .ref b)]) hx hb dL_law_15 rfl hl (by decide) rfl (fun ls hl => ?_)
  refine lv_iconst (v := nI 0) hx hb dL_law_16 (by decide) ?_
  refine lv_istore_n (lv' := [(3, .int (nI 0)), (2, .ref (md 0)), (1, .ref (o 0)), (0, .ref b)]) hx hb dL_law_17 rfl hl (by decide) rfl (fun ls hl => ?_)
  obtain ⟨hP2, hD2⟩ := wl_all hfr hf0 hf1 hP hD
  obtain ⟨v1, v2⟩ := fX_L X o a0 a1 hi al tx b0 b1 md
  have hK : KX (fX X o a0 a1 hi al tx b0 b1 md) s := hB.1.ext rfl rfl rfl (XD_of hD2) (fX_n X o a0 a1 hi al tx b0 b1 md)
  refine W.widen (k := 155) (n := 3776) (Nat.le_of_ble_eq_true rfl) (Nat.le_of_ble_eq_true rfl) ?_
  exact law_loop (X := fX X o a0 a1 hi al tx b0 b1 md) ⟨C0, hK, hSA, Ax_of hD2, v1, v2, hL⟩ (L + 6) 0 (by omega) (by omega) s0 H locs ls Rel_0 hP2 hS hl
