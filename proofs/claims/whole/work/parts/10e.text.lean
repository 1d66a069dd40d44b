/-! ===== a new text ===== -/
def idT : List Id3 := [(3, 0, 0), (3, 0, 1), (3, 0, 2), (3, 0, 3), (3, 0, 4)]
def tX (X : Cx) (a : Nat → Nat) : Cx := (X.1, X.2.1, fun _ _ k => a k, idT, X.2.2.2.2)
def txW (X : Cx) (a : Nat → Nat) : va_W := wl (tX X a) zS
def PsT (X : Cx) : Nat → va_W → Prop := fun h0 ws => ∃ a : Nat → Nat, a 0 = h0 ∧ ws = txW X a
set_option maxHeartbeats 4000000 in
set_option maxRecDepth 100000 in
theorem n_X2 {l : Launch} {X : Cx} : NewC l X yX2_init cX2_init 1 1 2 [.null, .int 0, .null, .null, .null, .int 0] 4 323 (PsT X) := by
  refine NewC_of (by decide) rfl (by decide) (by decide) dX2_init_0 dX2_init_1 ml_X2_3 ?_
  intro p e s m below meth c h0 ls F hl hP hD
  obtain ⟨hx, hb, hml, hr, hlocks, hown, hmi, hts, hB, hSA⟩ := F
  have hA : ∀ q, s.heap.size ≤ q → A1 h0 s.heap.size q := fun q h => Or.inr h
  have hS : va_S (A1 h0 s.heap.size) s.heap s.heap [] := va_S.rf
  refine lv_aload_n hx hb dX2_init_4 rfl (lv_at hl 0 rfl) ?_
  refine lv_bipush (v := nI 80) hx hb dX2_init_5 (by decide) ?_
  refine W_nf (C := RX2) (Tt := TX2) (N := 6) (ci := 2) (ti := 1) (n := 80) (k := 0) hx hb hown hts hB.1 hP hD hS hA hmi arr__char rfl rfl (fun _ _ h => h) rfl rfl (by decide) (by decide) inX2 tyX2 tyX2_ok nmX2 rfl (by decide) fl_X2_9 rfl rfl (fun q => ⟨rfl, rfl⟩) (Nat.le_of_ble_eq_true rfl) ⟨Nat.le_of_ble_eq_true rfl, Nat.le_of_ble_eq_true rfl⟩ dX2_init_7 dX2_init_9 (fun q1 H locs hP hD hS => ?_)
  refine lv_aload_n hx hb dX2_init_12 rfl (lv_at hl 0 rfl) ?_
  refine lv_iconst (v := 0) hx hb dX2_init_13 (by decide) ?_
  refine W_z (C := RX2) (Tt := TX2) (N := 6) (ci := 2) (k := 1) hx hb hown hts hB.1 hP hD hS inX2 tyX2 tyX2_ok nmX2 rfl (by decide) fl_X2_15 rfl rfl (Nat.le_of_ble_eq_true rfl) dX2_init_14 (fun H locs hP hD hS => ?_)
  refine lv_aload_n hx hb dX2_init_17 rfl (lv_at hl 0 rfl) ?_
  refine lv_bipush (v := nI 81) hx hb dX2_init_18 (by decide) ?_
  refine W_nf (C := RX2) (Tt := TX2) (N := 6) (ci := 2) (ti := 0) (n := 81) (k := 2) hx hb hown hts hB.1 hP hD hS hA hmi arr__int rfl rfl (fun _ _ h => h) rfl rfl (by decide) (by decide) inX2 tyX2 tyX2_ok nmX2 rfl (by decide) fl_X2_19 rfl rfl (fun q => ⟨rfl, rfl⟩) (Nat.le_of_ble_eq_true rfl) ⟨Nat.le_of_ble_eq_true rfl, Nat.le_of_ble_eq_true rfl⟩ dX2_init_20 dX2_init_22 (fun q2 H locs hP hD hS => ?_)
  refine lv_aload_n hx hb dX2_init_25 rfl (lv_at hl 0 rfl) ?_
  refine lv_bipush (v := nI 81) hx hb dX2_init_26 (by decide) ?_
  refine W_nf (C := RX2) (Tt := TX2) (N := 6) (ci := 2) (ti := 0) (n := 81) (k := 3) hx hb hown hts hB.1 hP hD hS hA hmi arr__int rfl rfl (fun _ _ h => h) rfl rfl (by decide) (by decide) inX2 tyX2 tyX2_ok nmX2 rfl (by decide) fl_X2_23 rfl rfl (fun q => ⟨rfl, rfl⟩) (Nat.le_of_ble_eq_true rfl) ⟨Nat.le_of_ble_eq_true rfl, Nat.le_of_ble_eq_true rfl⟩ dX2_init_28 dX2_init_30 (fun q3 H locs hP hD hS => ?_)
  refine lv_aload_n hx hb dX2_init_33 rfl (lv_at hl 0 rfl) ?_
  refine lv_bipush (v := nI 81) hx hb dX2_init_34 (by decide) ?_
  refine W_nf (C := RX2) (Tt := TX2) (N := 6) (ci := 2) (ti := 0) (n := 81) (k := 4) hx hb hown hts hB.1 hP hD hS hA hmi arr__int rfl rfl (fun _ _ h => h) rfl rfl (by decide) (by decide) inX2 tyX2 tyX2_ok nmX2 rfl (by decide) fl_X2_26 rfl rfl (fun q => ⟨rfl, rfl⟩) (Nat.le_of_ble_eq_true rfl) ⟨Nat.le_of_ble_eq_true rfl, Nat.le_of_ble_eq_true rfl⟩ dX2_init_36 dX2_init_38 (fun q4 H locs hP hD hS => ?_)
  refine lv_aload_n hx hb dX2_init_41 rfl (lv_at hl 0 rfl) ?_
  refine lv_iconst (v := 0) hx hb dX2_init_42 (by decide) ?_
  refine W_z (C := RX2) (Tt := TX2) (N := 6) (ci := 2) (k := 5) hx hb hown hts hB.1 hP hD hS inX2 tyX2 tyX2_ok nmX2 rfl (by decide) fl_X2_29 rfl rfl (Nat.le_of_ble_eq_true rfl) dX2_init_43 (fun H locs hP hD hS => ?_)
  refine W.widen (k := 4) (n := 323) (Nat.le_of_ble_eq_true rfl) (Nat.le_of_ble_eq_true rfl) ?_
  exact W.vret hx hb hr (fun t ht hW => ⟨⟨rfl, txW X (fun k => match k with | 0 => h0 | 1 => q1 | 2 => q2 | 3 => q3 | _ => q4), ⟨_, rfl, rfl⟩, by rw [ht]; exact hP, hD⟩, hS.F ht⟩) hS.2.2 dX2_init_46 hlocks

set_option maxHeartbeats 4000000 in
set_option maxRecDepth 100000 in
theorem his_step {p : Program} {l : Launch} {e : Env} {R : Room} {s : State} {m : MethodId} {args : Array Value} {below : List Frame} {meth : Method} {c : Code} {H : Heap} {locs : List Loc} {cells slots : Nat} {Q : State → Prop} {ls : Array Slot} {A0 : Nat → Prop} {X : Cx} {h0 qa i : Nat} {fs : List Value} {M1 M2 L : va_W} {f : Nat → Option Nat} (hx : p.tables.exec = Jvm.exec) (hb : c.code = cX0_init) (hml : c.maxLocals = 2) (hown : s.vm.findClass RX0 = some m.cls) (hts : ∀ w ∈ tb, w.before args s = true) (hB : BX X s) (hSA : SA X A0 s s.heap) (hA : ∀ q, s.heap.size ≤ q → A0 q) (hi : i < 8) (hl : lv_has ls 2 [(1, .int (nI i)), (0, .ref h0)])
    (hP : va_P X.1 vwCl ((h0, .inr (0, fs)) :: (M1 ++ (qa, .inl (X.2.1 3, 8, .inr (.inr (.inr (.inr f))))) :: (M2 ++ L))) H) (hD : va_D A0 ((h0, .inr (0, fs)) :: (M1 ++ (qa, .inl (X.2.1 3, 8, .inr (.inr (.inr (.inr f))))) :: (M2 ++ L)))) (hS : va_S A0 s.heap H locs) (hfs : fs[0]? = some (.ref qa)) (hR : 4 ≤ R.frames ∧ 128 ≤ R.locals) (hcs : cells + 11 ≤ R.cells ∧ slots + 137 ≤ R.slots)
    (kk : ∀ a H' locs' ls', lv_has ls' 2 [(1, .int (nI (i + 1))), (0, .ref h0)] → va_P X.1 vwCl ((h0, .inr (0, fs)) :: (M1 ++ (qa, .inl (X.2.1 3, 8, .inr (.inr (.inr (.inr (va_up f i (some (a 0)))))))) :: (M2 ++ (L ++ ledW X a)))) H' → va_D A0 ((h0, .inr (0, fs)) :: (M1 ++ (qa, .inl (X.2.1 3, 8, .inr (.inr (.inr (.inr (va_up f i (some (a 0)))))))) :: (M2 ++ (L ++ ledW X a)))) → va_S A0 s.heap H' locs' → W p l e R s m args below meth c H' locs' (cells + 1 + 10) (slots + 13 + 124) Q (F0 m 25 ls' [])) : W p l e R s m args below meth c H locs cells slots Q (F0 m 25 ls []) := by
  refine lv_iload_n hx hb dX0_init_25 rfl (lv_at hl 0 rfl) ?_
  refine lv_bipush (v := nI 8) hx hb dX0_init_26 (by decide) ?_
  refine lv_icmp_ge (tgt := 50) hx hb dX0_init_28 (by decide) (fun z => absurd z (nI_ge hi (by decide))) (fun _ => ?_)
  refine lv_aload_n hx hb dX0_init_31 rfl (lv_at hl 1 rfl) ?_
  refine va_get (D := X.1) (ci := 0) (v := .ref qa) (C := RX0) (T := TX0) (N := 3) hx hb hts inX0 hown hB.1.2.1 hP 0 rfl rfl 0 (by decide) (hts _ fl_X0_11) (fun _ h9 => h9) hfs dX0_init_32 ?_
  refine lv_iload_n hx hb dX0_init_35 rfl (lv_at hl 0 rfl) ?_
  refine W_newC (X := X) (A0 := A0) (C := RX1) (Tt := TX1) (N := 13) (ci := 1) (fs := [.int 0, .int 0, .int 0, .null, .null, .null, .null, .null, .null, .null, .null, .null, .null]) n_X1 hx hb hml hown hts hB hSA hP hD hS hA hl.1 inX1 tyX1 tyX1_ok cl_X0_9 ins_RX1_13 ini_RX1 rfl (by decide) ml_X0_24 im_yX1_init co_yX1_init rfl rfl de_X1_init ⟨hR.1, hR.2⟩ ⟨by omega, by omega⟩ (Nat.le_of_ble_eq_true rfl) dX0_init_36 dX0_init_39 dX0_init_40 (fun q ws' H locs hq hP hD hS => ?_)
  obtain ⟨a, rfl, rfl⟩ := hq
  have hget : (((h0, .inr (0, fs)) :: (M1 ++ (qa, .inl (X.2.1 3, 8, .inr (.inr (.inr (.inr f))))) :: (M2 ++ L)) : va_W) ++ ledW X a)[((h0, .inr (0, fs)) :: (M1 ++ (qa, .inl (X.2.1 3, 8, .inr (.inr (.inr (.inr f))))) :: (M2 ++ L)) : va_W).length]? = some (a 0, cel (lX X a) (setR zS 1 0 iniL 1 0 0) 1 0 0) := by
    rw [List.getElem?_append_right (Nat.le_refl _), Nat.sub_self]
    rfl
  have e1 : (((h0, .inr (0, fs)) :: (M1 ++ (qa, .inl (X.2.1 3, 8, .inr (.inr (.inr (.inr f))))) :: (M2 ++ L)) : va_W) ++ ledW X a) = (h0, .inr (0, fs)) :: (M1 ++ (qa, .inl (X.2.1 3, 8, .inr (.inr (.inr (.inr f))))) :: (M2 ++ (L ++ ledW X a))) := by simp
  rw [e1] at hP hD hget
  refine va_astq (D := X.1) (cl := vwCl) (tys := tyX X) (ci := 1) hx hb hB.1.2.1 hP hD hS (M1.length + 1) 3 _ (get_mid _ _ _ M1) rfl hget rfl (by exact vp_in_nI hi (by decide)) dX0_init_43 (fun H locs hP hD hS => ?_)
  rw [set_mid, nI_clamp (by omega)] at hP hD
  refine lv_iinc (v := nI (i + 1)) (lv' := [(1, .int (nI (i + 1))), (0, .ref h0)]) hx hb dX0_init_44 hl (k := 0) rfl (nI_1 i) (by decide) rfl (fun ls' hl' => ?_)
  refine lv_goto (tgt := 25) hx hb dX0_init_47 (by decide) ?_
  exact kk a H locs ls' hl' hP hD hS

