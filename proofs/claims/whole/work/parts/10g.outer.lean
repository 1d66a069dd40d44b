/-! ===== a new object ===== -/
theorem asm_o (T : va_W) (x1 x2 x3 x4 x5 : Nat × va_E) : ((((T ++ [x1]) ++ [x2]) ++ [x3]) ++ [x4]) ++ [x5] = T ++ x1 :: ([x2, x3, x4, x5] ++ ([] : va_W)) := by simp
set_option maxHeartbeats 4000000 in
set_option maxRecDepth 100000 in
theorem out_step {p : Program} {l : Launch} {e : Env} {R : Room} {s : State} {m : MethodId} {args : Array Value} {below : List Frame} {meth : Method} {c : Code} {H : Heap} {locs : List Loc} {cells slots : Nat} {Q : State → Prop} {ls : Array Slot} {A0 : Nat → Prop} {X : Cx} {h0 qa i : Nat} {fs : List Value} {M1 M2 L : va_W} {f : Nat → Option Nat} (hx : p.tables.exec = Jvm.exec) (hb : c.code = cX3_init) (hml : c.maxLocals = 2) (hown : s.vm.findClass RX3 = some m.cls) (hts : ∀ w ∈ tb, w.before args s = true) (hB : BX X s) (hSA : SA X A0 s s.heap) (hA : ∀ q, s.heap.size ≤ q → A0 q) (hi : i < 2) (hl : lv_has ls 2 [(1, .int (nI i)), (0, .ref h0)])
    (hP : va_P X.1 vwCl ((h0, .inr (3, fs)) :: (M1 ++ (qa, .inl (X.2.1 3, 2, .inr (.inr (.inr (.inr f))))) :: (M2 ++ L))) H) (hD : va_D A0 ((h0, .inr (3, fs)) :: (M1 ++ (qa, .inl (X.2.1 3, 2, .inr (.inr (.inr (.inr f))))) :: (M2 ++ L)))) (hS : va_S A0 s.heap H locs) (hfs : fs[4]? = some (.ref qa)) (hR : 4 ≤ R.frames ∧ 128 ≤ R.locals) (hcs : cells + 11 ≤ R.cells ∧ slots + 137 ≤ R.slots)
    (kk : ∀ a H' locs' ls', lv_has ls' 2 [(1, .int (nI (i + 1))), (0, .ref h0)] → va_P X.1 vwCl ((h0, .inr (3, fs)) :: (M1 ++ (qa, .inl (X.2.1 3, 2, .inr (.inr (.inr (.inr (va_up f i (some (a 0)))))))) :: (M2 ++ (L ++ ledW X a)))) H' → va_D A0 ((h0, .inr (3, fs)) :: (M1 ++ (qa, .inl (X.2.1 3, 2, .inr (.inr (.inr (.inr (va_up f i (some (a 0)))))))) :: (M2 ++ (L ++ ledW X a)))) → va_S A0 s.heap H' locs' → W p l e R s m args below meth c H' locs' (cells + 1 + 10) (slots + 13 + 124) Q (F0 m 93 ls' [])) : W p l e R s m args below meth c H locs cells slots Q (F0 m 93 ls []) := by
  refine lv_iload_n hx hb dX3_init_93 rfl (lv_at hl 0 rfl) ?_
  refine lv_iconst (v := nI 2) hx hb dX3_init_94 (by decide) ?_
  refine lv_icmp_ge (tgt := 117) hx hb dX3_init_95 (by decide) (fun z => absurd z (nI_ge hi (by decide))) (fun _ => ?_)
  refine lv_aload_n hx hb dX3_init_98 rfl (lv_at hl 1 rfl) ?_
  refine va_get (D := X.1) (ci := 3) (v := .ref qa) (C := RX3) (T := TX3) (N := 10) hx hb hts inX3 hown hB.1.2.1 hP 0 rfl rfl 4 (by decide) (hts _ fl_X3_33) (fun _ h9 => h9) hfs dX3_init_99 ?_
  refine lv_iload_n hx hb dX3_init_102 rfl (lv_at hl 0 rfl) ?_
  refine W_newC (X := X) (A0 := A0) (C := RX1) (Tt := TX1) (N := 13) (ci := 1) (fs := [.int 0, .int 0, .int 0, .null, .null, .null, .null, .null, .null, .null, .null, .null, .null]) n_X1 hx hb hml hown hts hB hSA hP hD hS hA hl.1 inX1 tyX1 tyX1_ok cl_X3_7 ins_RX1_13 ini_RX1 rfl (by decide) ml_X3_9 im_yX1_init co_yX1_init rfl rfl de_X1_init ⟨hR.1, hR.2⟩ ⟨by omega, by omega⟩ (Nat.le_of_ble_eq_true rfl) dX3_init_103 dX3_init_106 dX3_init_107 (fun q ws' H locs hq hP hD hS => ?_)
  obtain ⟨a, rfl, rfl⟩ := hq
  have hget : (((h0, .inr (3, fs)) :: (M1 ++ (qa, .inl (X.2.1 3, 2, .inr (.inr (.inr (.inr f))))) :: (M2 ++ L)) : va_W) ++ ledW X a)[((h0, .inr (3, fs)) :: (M1 ++ (qa, .inl (X.2.1 3, 2, .inr (.inr (.inr (.inr f))))) :: (M2 ++ L)) : va_W).length]? = some (a 0, cel (lX X a) (setR zS 1 0 iniL 1 0 0) 1 0 0) := by
    rw [List.getElem?_append_right (Nat.le_refl _), Nat.sub_self]
    rfl
  have e1 : (((h0, .inr (3, fs)) :: (M1 ++ (qa, .inl (X.2.1 3, 2, .inr (.inr (.inr (.inr f))))) :: (M2 ++ L)) : va_W) ++ ledW X a) = (h0, .inr (3, fs)) :: (M1 ++ (qa, .inl (X.2.1 3, 2, .inr (.inr (.inr (.inr f))))) :: (M2 ++ (L ++ ledW X a))) := by simp
  rw [e1] at hP hD hget
  refine va_astq (D := X.1) (cl := vwCl) (tys := tyX X) (ci := 1) hx hb hB.1.2.1 hP hD hS (M1.length + 1) 3 _ (get_mid _ _ _ M1) rfl hget rfl (by exact vp_in_nI hi (by decide)) dX3_init_110 (fun H locs hP hD hS => ?_)
  rw [set_mid, nI_clamp (by omega)] at hP hD
  refine lv_iinc (v := nI (i + 1)) (lv' := [(1, .int (nI (i + 1))), (0, .ref h0)]) hx hb dX3_init_111 hl (k := 0) rfl (nI_1 i) (by decide) rfl (fun ls' hl' => ?_)
  refine lv_goto (tgt := 93) hx hb dX3_init_114 (by decide) ?_
  exact kk a H locs ls' hl' hP hD hS

noncomputable def outW (X : Cx) (o a0 a1 : Nat → Nat) (hi : Nat → Nat) (al : Nat → Nat → Nat) (fr : Nat → Option Nat) (tx : Nat → Nat) (fi : Nat → Option Nat) (b0 b1 : Nat → Nat) : va_W := (o 0, .inr (3, [.ref (a0 0), .ref (a1 0), .ref (hi 0), .ref (tx 0), .ref (o 1), .ref (o 2), .ref (o 3), .ref (o 4), .int 0, .ref (o 5)])) :: (((((([] : va_W) ++ ledW X a0) ++ ledW X a1) ++ hisW X hi al fr) ++ txW X tx) ++ (o 1, (Sum.inl (X.2.1 3, 2, Sum.inr (Sum.inr (Sum.inr (Sum.inr fi)))) : va_E)) :: ([(o 2, (Sum.inl (X.2.1 2, 2, Sum.inl (fun _ => 0)) : va_E)), (o 3, (Sum.inl (X.2.1 0, 6, Sum.inl (fun _ => 0)) : va_E)), (o 4, (Sum.inl (X.2.1 0, 6, Sum.inl (fun _ => 0)) : va_E)), (o 5, (Sum.inl (X.2.1 0, 4, Sum.inl (fun _ => 0)) : va_E))] ++ ((([] : va_W) ++ ledW X b0) ++ ledW X b1)))
def PsO (X : Cx) : Nat → va_W → Prop := fun h0 ws => ∃ (o a0 a1 hi : Nat → Nat) (al : Nat → Nat → Nat) (fr : Nat → Option Nat) (tx : Nat → Nat) (fi : Nat → Option Nat) (b0 b1 : Nat → Nat), o 0 = h0 ∧ (∀ j, j < 8 → fr j = some (al j 0)) ∧ fi 0 = some (b0 0) ∧ fi 1 = some (b1 0) ∧ ws = outW X o a0 a1 hi al fr tx fi b0 b1
set_option maxHeartbeats 4000000 in
set_option maxRecDepth 100000 in
theorem n_X3 {l : Launch} {X : Cx} : NewC l X yX3_init cX3_init 2 5 3 [.null, .null, .null, .null, .null, .null, .null, .null, .int 0, .null] 144 2004 (PsO X) := by
  refine NewC_of (by decide) rfl (by decide) (by decide) dX3_init_0 dX3_init_1 ml_X3_1 ?_
  intro p e s m below meth c h0 ls F hl hP hD
  obtain ⟨hx, hb, hml, hr, hlocks, hown, hmi, hts, hB, hSA⟩ := F
  have hA : ∀ q, s.heap.size ≤ q → A1 h0 s.heap.size q := fun q h => Or.inr h
  have hS : va_S (A1 h0 s.heap.size) s.heap s.heap [] := va_S.rf
  refine lv_aload_n hx hb dX3_init_4 rfl (lv_at hl 0 rfl) ?_
  refine W_newC (X := X) (A0 := A1 h0 s.heap.size) (C := RX1) (Tt := TX1) (N := 13) (ci := 1) (fs := [.int 0, .int 0, .int 0, .null, .null, .null, .null, .null, .null, .null, .null, .null, .null]) n_X1 hx hb hml hown hts hB hSA hP hD hS hA hl.1 inX1 tyX1 tyX1_ok cl_X3_7 ins_RX1_13 ini_RX1 rfl (by decide) ml_X3_9 im_yX1_init co_yX1_init rfl rfl de_X1_init ⟨by decide, by decide⟩ ⟨Nat.le_of_ble_eq_true rfl, Nat.le_of_ble_eq_true rfl⟩ (Nat.le_of_ble_eq_true rfl) dX3_init_5 dX3_init_8 dX3_init_9 (fun qn ws' H locs hq hP hD hS => ?_)
  obtain ⟨a0, rfl, rfl⟩ := hq
  refine W_pf (ws := (([] : va_W) ++ ledW X a0)) (C := RX3) (Tt := TX3) (N := 10) (ci := 3) (k := 0) hx hb hown hts hB.1 hP hD hS hmi inX3 tyX3 tyX3_ok nmX3 rfl (by decide) fl_X3_10 rfl rfl (fun q => ⟨rfl, rfl⟩) (Nat.le_of_ble_eq_true rfl) dX3_init_12 (fun H locs hP hD hS => ?_)
  refine lv_aload_n hx hb dX3_init_15 rfl (lv_at hl 0 rfl) ?_
  refine W_newC (X := X) (A0 := A1 h0 s.heap.size) (C := RX1) (Tt := TX1) (N := 13) (ci := 1) (fs := [.int 0, .int 0, .int 0, .null, .null, .null, .null, .null, .null, .null, .null, .null, .null]) n_X1 hx hb hml hown hts hB hSA hP hD hS hA hl.1 inX1 tyX1 tyX1_ok cl_X3_7 ins_RX1_13 ini_RX1 rfl (by decide) ml_X3_9 im_yX1_init co_yX1_init rfl rfl de_X1_init ⟨by decide, by decide⟩ ⟨Nat.le_of_ble_eq_true rfl, Nat.le_of_ble_eq_true rfl⟩ (Nat.le_of_ble_eq_true rfl) dX3_init_16 dX3_init_19 dX3_init_20 (fun qn ws' H locs hq hP hD hS => ?_)
  obtain ⟨a1, rfl, rfl⟩ := hq
  refine W_pf (ws := ((([] : va_W) ++ ledW X a0) ++ ledW X a1)) (C := RX3) (Tt := TX3) (N := 10) (ci := 3) (k := 1) hx hb hown hts hB.1 hP hD hS hmi inX3 tyX3 tyX3_ok nmX3 rfl (by decide) fl_X3_16 rfl rfl (fun q => ⟨rfl, rfl⟩) (Nat.le_of_ble_eq_true rfl) dX3_init_23 (fun H locs hP hD hS => ?_)
  refine lv_aload_n hx hb dX3_init_26 rfl (lv_at hl 0 rfl) ?_
  refine W_newC (X := X) (A0 := A1 h0 s.heap.size) (C := RX0) (Tt := TX0) (N := 3) (ci := 0) (fs := [.null, .int 0, .int 0]) n_X0 hx hb hml hown hts hB hSA hP hD hS hA hl.1 inX0 tyX0 tyX0_ok cl_X3_19 ins_RX0_3 ini_RX0 rfl (by decide) ml_X3_21 im_yX0_init co_yX0_init rfl rfl de_X0_init ⟨by decide, by decide⟩ ⟨Nat.le_of_ble_eq_true rfl, Nat.le_of_ble_eq_true rfl⟩ (Nat.le_of_ble_eq_true rfl) dX3_init_27 dX3_init_30 dX3_init_31 (fun qn ws' H locs hq hP hD hS => ?_)
  obtain ⟨hi, al, fr, rfl, hfr, rfl⟩ := hq
  refine W_pf (ws := (((([] : va_W) ++ ledW X a0) ++ ledW X a1) ++ hisW X hi al fr)) (C := RX3) (Tt := TX3) (N := 10) (ci := 3) (k := 2) hx hb hown hts hB.1 hP hD hS hmi inX3 tyX3 tyX3_ok nmX3 rfl (by decide) fl_X3_22 rfl rfl (fun q => ⟨rfl, rfl⟩) (Nat.le_of_ble_eq_true rfl) dX3_init_34 (fun H locs hP hD hS => ?_)
  refine lv_aload_n hx hb dX3_init_37 rfl (lv_at hl 0 rfl) ?_
  refine W_newCN (X := X) (A0 := A1 h0 s.heap.size) (C := RX2) (Tt := TX2) (N := 6) (ci := 2) (fs := [.null, .int 0, .null, .null, .null, .int 0]) n_X2 hx hb hml hown hts hB hSA hP hD hS hA hl.1 inX2 tyX2 tyX2_ok cl_X3_26 ins_RX2_6 ini_RX2 rfl (by decide) hB.1.2.2.2.2.2.2.1 im_yX2_init co_yX2_init rfl rfl de_X2_init ⟨by decide, by decide⟩ ⟨Nat.le_of_ble_eq_true rfl, Nat.le_of_ble_eq_true rfl⟩ (Nat.le_of_ble_eq_true rfl) dX3_init_38 dX3_init_41 dX3_init_42 (fun qn ws' H locs hq hP hD hS => ?_)
  obtain ⟨tx, rfl, rfl⟩ := hq
  refine W_pf (ws := ((((([] : va_W) ++ ledW X a0) ++ ledW X a1) ++ hisW X hi al fr) ++ txW X tx)) (C := RX3) (Tt := TX3) (N := 10) (ci := 3) (k := 3) hx hb hown hts hB.1 hP hD hS hmi inX3 tyX3 tyX3_ok nmX3 rfl (by decide) fl_X3_29 rfl rfl (fun q => ⟨rfl, rfl⟩) (Nat.le_of_ble_eq_true rfl) dX3_init_45 (fun H locs hP hD hS => ?_)
  refine lv_aload_n hx hb dX3_init_48 rfl (lv_at hl 0 rfl) ?_
  refine lv_iconst (v := nI 2) hx hb dX3_init_49 (by decide) ?_
  refine W_nq (n := 2) hx hb hown hts hB hP hD hS hA cl_X3_7 rfl (by decide) ⟨Nat.le_of_ble_eq_true rfl, Nat.le_of_ble_eq_true rfl⟩ dX3_init_50 (fun qa H hP hD hS => ?_)
  refine W_pf (ws := (((((([] : va_W) ++ ledW X a0) ++ ledW X a1) ++ hisW X hi al fr) ++ txW X tx) ++ [(qa, (Sum.inl (X.2.1 3, 2, Sum.inr (Sum.inr (Sum.inr (Sum.inr (fun _ => none))))) : va_E))])) (C := RX3) (Tt := TX3) (N := 10) (ci := 3) (k := 4) hx hb hown hts hB.1 hP hD hS hmi inX3 tyX3 tyX3_ok nmX3 rfl (by decide) fl_X3_33 rfl rfl (fun q => ⟨rfl, rfl⟩) (Nat.le_of_ble_eq_true rfl) dX3_init_53 (fun H locs hP hD hS => ?_)
  refine lv_aload_n hx hb dX3_init_56 rfl (lv_at hl 0 rfl) ?_
  refine lv_iconst (v := nI 2) hx hb dX3_init_57 (by decide) ?_
  refine W_nf (ws := (((((([] : va_W) ++ ledW X a0) ++ ledW X a1) ++ hisW X hi al fr) ++ txW X tx) ++ [(qa, (Sum.inl (X.2.1 3, 2, Sum.inr (Sum.inr (Sum.inr (Sum.inr (fun _ => none))))) : va_E))])) (C := RX3) (Tt := TX3) (N := 10) (ci := 3) (ti := 2) (n := 2) (k := 5) hx hb hown hts hB.1 hP hD hS hA hmi arr__boolean rfl rfl (fun _ _ h => h) rfl rfl (by decide) (by decide) inX3 tyX3 tyX3_ok nmX3 rfl (by decide) fl_X3_37 rfl rfl (fun q => ⟨rfl, rfl⟩) (Nat.le_of_ble_eq_true rfl) ⟨Nat.le_of_ble_eq_true rfl, Nat.le_of_ble_eq_true rfl⟩ dX3_init_58 dX3_init_60 (fun qk H locs hP hD hS => ?_)
  refine lv_aload_n hx hb dX3_init_63 rfl (lv_at hl 0 rfl) ?_
  refine lv_bipush (v := nI 6) hx hb dX3_init_64 (by decide) ?_
  refine W_nf (ws := ((((((([] : va_W) ++ ledW X a0) ++ ledW X a1) ++ hisW X hi al fr) ++ txW X tx) ++ [(qa, (Sum.inl (X.2.1 3, 2, Sum.inr (Sum.inr (Sum.inr (Sum.inr (fun _ => none))))) : va_E))]) ++ [(qk, (Sum.inl (X.2.1 2, 2, Sum.inl (fun _ => 0)) : va_E))])) (C := RX3) (Tt := TX3) (N := 10) (ci := 3) (ti := 0) (n := 6) (k := 6) hx hb hown hts hB.1 hP hD hS hA hmi arr__int rfl rfl (fun _ _ h => h) rfl rfl (by decide) (by decide) inX3 tyX3 tyX3_ok nmX3 rfl (by decide) fl_X3_41 rfl rfl (fun q => ⟨rfl, rfl⟩) (Nat.le_of_ble_eq_true rfl) ⟨Nat.le_of_ble_eq_true rfl, Nat.le_of_ble_eq_true rfl⟩ dX3_init_66 dX3_init_68 (fun qw H locs hP hD hS => ?_)
  refine lv_aload_n hx hb dX3_init_71 rfl (lv_at hl 0 rfl) ?_
  refine lv_bipush (v := nI 6) hx hb dX3_init_72 (by decide) ?_
  refine W_nf (ws := (((((((([] : va_W) ++ ledW X a0) ++ ledW X a1) ++ hisW X hi al fr) ++ txW X tx) ++ [(qa, (Sum.inl (X.2.1 3, 2, Sum.inr (Sum.inr (Sum.inr (Sum.inr (fun _ => none))))) : va_E))]) ++ [(qk, (Sum.inl (X.2.1 2, 2, Sum.inl (fun _ => 0)) : va_E))]) ++ [(qw, (Sum.inl (X.2.1 0, 6, Sum.inl (fun _ => 0)) : va_E))])) (C := RX3) (Tt := TX3) (N := 10) (ci := 3) (ti := 0) (n := 6) (k := 7) hx hb hown hts hB.1 hP hD hS hA hmi arr__int rfl rfl (fun _ _ h => h) rfl rfl (by decide) (by decide) inX3 tyX3 tyX3_ok nmX3 rfl (by decide) fl_X3_45 rfl rfl (fun q => ⟨rfl, rfl⟩) (Nat.le_of_ble_eq_true rfl) ⟨Nat.le_of_ble_eq_true rfl, Nat.le_of_ble_eq_true rfl⟩ dX3_init_74 dX3_init_76 (fun qv H locs hP hD hS => ?_)
  refine lv_aload_n hx hb dX3_init_79 rfl (lv_at hl 0 rfl) ?_
  refine lv_iconst (v := 0) hx hb dX3_init_80 (by decide) ?_
  refine W_z (ws := ((((((((([] : va_W) ++ ledW X a0) ++ ledW X a1) ++ hisW X hi al fr) ++ txW X tx) ++ [(qa, (Sum.inl (X.2.1 3, 2, Sum.inr (Sum.inr (Sum.inr (Sum.inr (fun _ => none))))) : va_E))]) ++ [(qk, (Sum.inl (X.2.1 2, 2, Sum.inl (fun _ => 0)) : va_E))]) ++ [(qw, (Sum.inl (X.2.1 0, 6, Sum.inl (fun _ => 0)) : va_E))]) ++ [(qv, (Sum.inl (X.2.1 0, 6, Sum.inl (fun _ => 0)) : va_E))])) (C := RX3) (Tt := TX3) (N := 10) (ci := 3) (k := 8) hx hb hown hts hB.1 hP hD hS inX3 tyX3 tyX3_ok nmX3 rfl (by decide) fl_X3_48 rfl rfl (Nat.le_of_ble_eq_true rfl) dX3_init_81 (fun H locs hP hD hS => ?_)
  refine lv_aload_n hx hb dX3_init_84 rfl (lv_at hl 0 rfl) ?_
  refine lv_iconst (v := nI 4) hx hb dX3_init_85 (by decide) ?_
  refine W_nf (ws := ((((((((([] : va_W) ++ ledW X a0) ++ ledW X a1) ++ hisW X hi al fr) ++ txW X tx) ++ [(qa, (Sum.inl (X.2.1 3, 2, Sum.inr (Sum.inr (Sum.inr (Sum.inr (fun _ => none))))) : va_E))]) ++ [(qk, (Sum.inl (X.2.1 2, 2, Sum.inl (fun _ => 0)) : va_E))]) ++ [(qw, (Sum.inl (X.2.1 0, 6, Sum.inl (fun _ => 0)) : va_E))]) ++ [(qv, (Sum.inl (X.2.1 0, 6, Sum.inl (fun _ => 0)) : va_E))])) (C := RX3) (Tt := TX3) (N := 10) (ci := 3) (ti := 0) (n := 4) (k := 9) hx hb hown hts hB.1 hP hD hS hA hmi arr__int rfl rfl (fun _ _ h => h) rfl rfl (by decide) (by decide) inX3 tyX3 tyX3_ok nmX3 rfl (by decide) fl_X3_52 rfl rfl (fun q => ⟨rfl, rfl⟩) (Nat.le_of_ble_eq_true rfl) ⟨Nat.le_of_ble_eq_true rfl, Nat.le_of_ble_eq_true rfl⟩ dX3_init_86 dX3_init_88 (fun qz H locs hP hD hS => ?_)
  refine lv_iconst (v := nI 0) hx hb dX3_init_91 (by decide) ?_
  refine lv_istore_n (lv' := [(1, .int (nI 0)), (0, .ref h0)]) hx hb dX3_init_92 rfl hl (by decide) rfl (fun ls hl => ?_)
  rw [asm_o] at hP hD
  refine out_step (M1 := ((((([] : va_W) ++ ledW X a0) ++ ledW X a1) ++ hisW X hi al fr) ++ txW X tx)) (M2 := [(qk, (Sum.inl (X.2.1 2, 2, Sum.inl (fun _ => 0)) : va_E)), (qw, (Sum.inl (X.2.1 0, 6, Sum.inl (fun _ => 0)) : va_E)), (qv, (Sum.inl (X.2.1 0, 6, Sum.inl (fun _ => 0)) : va_E)), (qz, (Sum.inl (X.2.1 0, 4, Sum.inl (fun _ => 0)) : va_E))]) (L := ([] : va_W)) (qa := qa) (f := (fun _ => none)) (i := 0) hx hb hml hown hts hB hSA hA (by decide) hl hP hD hS rfl ⟨by decide, by decide⟩ ⟨Nat.le_of_ble_eq_true rfl, Nat.le_of_ble_eq_true rfl⟩ (fun b0 H locs ls hl hP hD hS => ?_)
  refine out_step (M1 := ((((([] : va_W) ++ ledW X a0) ++ ledW X a1) ++ hisW X hi al fr) ++ txW X tx)) (M2 := [(qk, (Sum.inl (X.2.1 2, 2, Sum.inl (fun _ => 0)) : va_E)), (qw, (Sum.inl (X.2.1 0, 6, Sum.inl (fun _ => 0)) : va_E)), (qv, (Sum.inl (X.2.1 0, 6, Sum.inl (fun _ => 0)) : va_E)), (qz, (Sum.inl (X.2.1 0, 4, Sum.inl (fun _ => 0)) : va_E))]) (L := (([] : va_W) ++ ledW X b0)) (qa := qa) (f := (va_up (fun _ => none) 0 (some (b0 0)))) (i := 1) hx hb hml hown hts hB hSA hA (by decide) hl hP hD hS rfl ⟨by decide, by decide⟩ ⟨Nat.le_of_ble_eq_true rfl, Nat.le_of_ble_eq_true rfl⟩ (fun b1 H locs ls hl hP hD hS => ?_)
  refine lv_iload_n hx hb dX3_init_93 rfl (lv_at hl 0 rfl) ?_
  refine lv_iconst (v := nI 2) hx hb dX3_init_94 (by decide) ?_
  refine lv_icmp_ge (tgt := 117) hx hb dX3_init_95 (by decide) (fun _ => ?_) (fun z => absurd (by decide) z)
  refine W.widen (k := 144) (n := 2004) (Nat.le_of_ble_eq_true rfl) (Nat.le_of_ble_eq_true rfl) ?_
  exact W.vret hx hb hr (fun t ht hW => ⟨⟨rfl, outW X (fun k => match k with | 0 => h0 | 1 => qa | 2 => qk | 3 => qw | 4 => qv | _ => qz) a0 a1 hi al fr tx (va_up (va_up (fun _ => none) 0 (some (b0 0))) 1 (some (b1 0))) b0 b1, ⟨_, a0, a1, hi, al, fr, tx, _, b0, b1, rfl, hfr, rfl, rfl, rfl⟩, by rw [ht]; exact hP, hD⟩, hS.F ht⟩) hS.2.2 dX3_init_117 hlocks

