/-! ===== a new ledger ===== -/
def zR : Rg := fun _ _ => 0
noncomputable def iniL : Rg := spaS (newS zR) (nC (newS zR))
def zS : Hp := fun _ _ => zR
def idL : List Id3 := [(1, 0, 0), (1, 0, 1), (1, 0, 2), (1, 0, 3), (1, 0, 4), (1, 0, 5), (1, 0, 6), (1, 0, 7), (1, 0, 8), (1, 0, 9), (1, 0, 10)]
def lX (X : Cx) (a : Nat → Nat) : Cx := (X.1, X.2.1, fun _ _ k => a k, idL, X.2.2.2.2)
noncomputable def ledW (X : Cx) (a : Nat → Nat) : va_W := wl (lX X a) (setR zS 1 0 iniL)
def PsL (X : Cx) : Nat → va_W → Prop := fun h0 ws => ∃ a : Nat → Nat, a 0 = h0 ∧ ws = ledW X a
theorem lX_v (X : Cx) (a : Nat → Nat) : Lv (lX X a) 1 0 := by
  intro k hk
  have h : ∀ k, k < 11 → (1, 0, k) ∈ idL := by decide
  exact h k hk
theorem lX_n (X : Cx) (a : Nat → Nat) : ∀ i ∈ ids (lX X a), i.2.2 < ncel i.1 := by
  show ∀ i ∈ idL, i.2.2 < ncel i.1
  decide
theorem D_wl {X : Cx} {A : Nat → Prop} {σ σ' : Hp} (h : va_D A (wl X σ)) : va_D A (wl X σ') := (wl_D (XD_of h) σ').weaken (fun _ _ _ z => Ax_of h _ z)
theorem zS_1 : setR zS 1 0 zR = zS := setR_id zS 1 0
set_option maxHeartbeats 4000000 in
set_option maxRecDepth 100000 in
theorem n_X1 {l : Launch} {X : Cx} : NewC l X yX1_init cX1_init 1 3 1 [.int 0, .int 0, .int 0, .null, .null, .null, .null, .null, .null, .null, .null, .null, .null] 10 124 (PsL X) := by
  refine NewC_of (by decide) rfl (by decide) (by decide) dX1_init_0 dX1_init_1 ml_X1_3 ?_
  intro p e s m below meth c h0 ls F hl hP hD
  obtain ⟨hx, hb, hml, hr, hlocks, hown, hmi, hts, hB, hSA⟩ := F
  have hA : ∀ q, s.heap.size ≤ q → A1 h0 s.heap.size q := fun q h => Or.inr h
  have hS : va_S (A1 h0 s.heap.size) s.heap s.heap [] := va_S.rf
  refine lv_aload_n hx hb dX1_init_4 rfl (lv_at hl 0 rfl) ?_
  refine lv_iconst (v := nI 4) hx hb dX1_init_5 (by decide) ?_
  refine W_nf (C := RX1) (Tt := TX1) (N := 13) (ci := 1) (ti := 0) (n := 4) (k := 3) hx hb hown hts hB.1 hP hD hS hA hmi arr__int rfl rfl (fun _ _ h => h) rfl rfl (by decide) (by decide) inX1 tyX1 tyX1_ok nmX1 rfl (by decide) fl_X1_9 rfl rfl (fun q => ⟨rfl, rfl⟩) (Nat.le_of_ble_eq_true rfl) ⟨Nat.le_of_ble_eq_true rfl, Nat.le_of_ble_eq_true rfl⟩ dX1_init_6 dX1_init_8 (fun q1 H locs hP hD hS => ?_)
  refine lv_aload_n hx hb dX1_init_11 rfl (lv_at hl 0 rfl) ?_
  refine lv_iconst (v := nI 4) hx hb dX1_init_12 (by decide) ?_
  refine W_nf (C := RX1) (Tt := TX1) (N := 13) (ci := 1) (ti := 0) (n := 4) (k := 4) hx hb hown hts hB.1 hP hD hS hA hmi arr__int rfl rfl (fun _ _ h => h) rfl rfl (by decide) (by decide) inX1 tyX1 tyX1_ok nmX1 rfl (by decide) fl_X1_15 rfl rfl (fun q => ⟨rfl, rfl⟩) (Nat.le_of_ble_eq_true rfl) ⟨Nat.le_of_ble_eq_true rfl, Nat.le_of_ble_eq_true rfl⟩ dX1_init_13 dX1_init_15 (fun q2 H locs hP hD hS => ?_)
  refine lv_aload_n hx hb dX1_init_18 rfl (lv_at hl 0 rfl) ?_
  refine lv_iconst (v := nI 4) hx hb dX1_init_19 (by decide) ?_
  refine W_nf (C := RX1) (Tt := TX1) (N := 13) (ci := 1) (ti := 0) (n := 4) (k := 5) hx hb hown hts hB.1 hP hD hS hA hmi arr__int rfl rfl (fun _ _ h => h) rfl rfl (by decide) (by decide) inX1 tyX1 tyX1_ok nmX1 rfl (by decide) fl_X1_18 rfl rfl (fun q => ⟨rfl, rfl⟩) (Nat.le_of_ble_eq_true rfl) ⟨Nat.le_of_ble_eq_true rfl, Nat.le_of_ble_eq_true rfl⟩ dX1_init_20 dX1_init_22 (fun q3 H locs hP hD hS => ?_)
  refine lv_aload_n hx hb dX1_init_25 rfl (lv_at hl 0 rfl) ?_
  refine lv_iconst (v := nI 4) hx hb dX1_init_26 (by decide) ?_
  refine W_nf (C := RX1) (Tt := TX1) (N := 13) (ci := 1) (ti := 0) (n := 4) (k := 6) hx hb hown hts hB.1 hP hD hS hA hmi arr__int rfl rfl (fun _ _ h => h) rfl rfl (by decide) (by decide) inX1 tyX1 tyX1_ok nmX1 rfl (by decide) fl_X1_21 rfl rfl (fun q => ⟨rfl, rfl⟩) (Nat.le_of_ble_eq_true rfl) ⟨Nat.le_of_ble_eq_true rfl, Nat.le_of_ble_eq_true rfl⟩ dX1_init_27 dX1_init_29 (fun q4 H locs hP hD hS => ?_)
  refine lv_aload_n hx hb dX1_init_32 rfl (lv_at hl 0 rfl) ?_
  refine lv_iconst (v := nI 4) hx hb dX1_init_33 (by decide) ?_
  refine W_nf (C := RX1) (Tt := TX1) (N := 13) (ci := 1) (ti := 0) (n := 4) (k := 7) hx hb hown hts hB.1 hP hD hS hA hmi arr__int rfl rfl (fun _ _ h => h) rfl rfl (by decide) (by decide) inX1 tyX1 tyX1_ok nmX1 rfl (by decide) fl_X1_24 rfl rfl (fun q => ⟨rfl, rfl⟩) (Nat.le_of_ble_eq_true rfl) ⟨Nat.le_of_ble_eq_true rfl, Nat.le_of_ble_eq_true rfl⟩ dX1_init_34 dX1_init_36 (fun q5 H locs hP hD hS => ?_)
  refine lv_aload_n hx hb dX1_init_39 rfl (lv_at hl 0 rfl) ?_
  refine lv_bipush (v := nI 16) hx hb dX1_init_40 (by decide) ?_
  refine W_nf (C := RX1) (Tt := TX1) (N := 13) (ci := 1) (ti := 0) (n := 16) (k := 8) hx hb hown hts hB.1 hP hD hS hA hmi arr__int rfl rfl (fun _ _ h => h) rfl rfl (by decide) (by decide) inX1 tyX1 tyX1_ok nmX1 rfl (by decide) fl_X1_27 rfl rfl (fun q => ⟨rfl, rfl⟩) (Nat.le_of_ble_eq_true rfl) ⟨Nat.le_of_ble_eq_true rfl, Nat.le_of_ble_eq_true rfl⟩ dX1_init_42 dX1_init_44 (fun q6 H locs hP hD hS => ?_)
  refine lv_aload_n hx hb dX1_init_47 rfl (lv_at hl 0 rfl) ?_
  refine lv_bipush (v := nI 16) hx hb dX1_init_48 (by decide) ?_
  refine W_nf (C := RX1) (Tt := TX1) (N := 13) (ci := 1) (ti := 0) (n := 16) (k := 9) hx hb hown hts hB.1 hP hD hS hA hmi arr__int rfl rfl (fun _ _ h => h) rfl rfl (by decide) (by decide) inX1 tyX1 tyX1_ok nmX1 rfl (by decide) fl_X1_30 rfl rfl (fun q => ⟨rfl, rfl⟩) (Nat.le_of_ble_eq_true rfl) ⟨Nat.le_of_ble_eq_true rfl, Nat.le_of_ble_eq_true rfl⟩ dX1_init_50 dX1_init_52 (fun q7 H locs hP hD hS => ?_)
  refine lv_aload_n hx hb dX1_init_55 rfl (lv_at hl 0 rfl) ?_
  refine lv_bipush (v := nI 24) hx hb dX1_init_56 (by decide) ?_
  refine W_nf (C := RX1) (Tt := TX1) (N := 13) (ci := 1) (ti := 0) (n := 24) (k := 10) hx hb hown hts hB.1 hP hD hS hA hmi arr__int rfl rfl (fun _ _ h => h) rfl rfl (by decide) (by decide) inX1 tyX1 tyX1_ok nmX1 rfl (by decide) fl_X1_33 rfl rfl (fun q => ⟨rfl, rfl⟩) (Nat.le_of_ble_eq_true rfl) ⟨Nat.le_of_ble_eq_true rfl, Nat.le_of_ble_eq_true rfl⟩ dX1_init_58 dX1_init_60 (fun q8 H locs hP hD hS => ?_)
  refine lv_aload_n hx hb dX1_init_63 rfl (lv_at hl 0 rfl) ?_
  refine lv_bipush (v := nI 24) hx hb dX1_init_64 (by decide) ?_
  refine W_nf (C := RX1) (Tt := TX1) (N := 13) (ci := 1) (ti := 0) (n := 24) (k := 11) hx hb hown hts hB.1 hP hD hS hA hmi arr__int rfl rfl (fun _ _ h => h) rfl rfl (by decide) (by decide) inX1 tyX1 tyX1_ok nmX1 rfl (by decide) fl_X1_36 rfl rfl (fun q => ⟨rfl, rfl⟩) (Nat.le_of_ble_eq_true rfl) ⟨Nat.le_of_ble_eq_true rfl, Nat.le_of_ble_eq_true rfl⟩ dX1_init_66 dX1_init_68 (fun q9 H locs hP hD hS => ?_)
  refine lv_aload_n hx hb dX1_init_71 rfl (lv_at hl 0 rfl) ?_
  refine lv_bipush (v := nI 24) hx hb dX1_init_72 (by decide) ?_
  refine W_nf (C := RX1) (Tt := TX1) (N := 13) (ci := 1) (ti := 0) (n := 24) (k := 12) hx hb hown hts hB.1 hP hD hS hA hmi arr__int rfl rfl (fun _ _ h => h) rfl rfl (by decide) (by decide) inX1 tyX1 tyX1_ok nmX1 rfl (by decide) fl_X1_39 rfl rfl (fun q => ⟨rfl, rfl⟩) (Nat.le_of_ble_eq_true rfl) ⟨Nat.le_of_ble_eq_true rfl, Nat.le_of_ble_eq_true rfl⟩ dX1_init_74 dX1_init_76 (fun q10 H locs hP hD hS => ?_)
  obtain ⟨a, ea⟩ : ∃ a : Nat → Nat, a = fun k => match k with | 0 => h0 | 1 => q1 | 2 => q2 | 3 => q3 | 4 => q4 | 5 => q5 | 6 => q6 | 7 => q7 | 8 => q8 | 9 => q9 | _ => q10 := ⟨_, rfl⟩
  have hP : va_P X.1 vwCl (wl (lX X a) (setR zS 1 0 zR)) H := by rw [zS_1, ea]; exact hP
  have hD : va_D (A1 h0 s.heap.size) (wl (lX X a) (setR zS 1 0 zR)) := by rw [zS_1, ea]; exact hD
  have hK : KX (lX X a) s := hB.1.ext rfl rfl rfl (XD_of hD) (lX_n X a)
  have hsub := Ax_of hD
  have e0 : h0 = adr (lX X a) 1 0 0 := by rw [ea]; rfl
  refine lv_aload_n hx hb dX1_init_79 rfl (lv_at hl 0 rfl) ?_
  refine W_conV (X := lX X a) (A0 := A1 h0 s.heap.size) (σ := setR zS 1 0 zR) (C := RX1) (As := []) (rest := []) hx hb hml hown hts hK hSA hsub hP hS hl.1 (by rw [e0]; exact va_recv hK.2.1 hP (ci := 1) (q0 := 0) rfl rfl) (by rw [e0]; exact k_X1_startAnew (lX_v X a)) ml_X1_42 im_yX1_startAnew se_RX1_yX1_startAnew ini_RX1 co_yX1_startAnew rfl de_X1_startAnew ⟨by decide, by decide⟩ ⟨Nat.le_of_ble_eq_true rfl, Nat.le_of_ble_eq_true rfl⟩ rfl (by decide) dX1_init_80 ?_
  rintro r u H locs ⟨rfl, rfl⟩ hP - - hS
  refine lv_aload_n hx hb dX1_init_83 rfl (lv_at hl 0 rfl) ?_
  refine W_conV (X := lX X a) (A0 := A1 h0 s.heap.size) (σ := setR zS 1 0 (newS zR)) (C := RX1) (As := []) (rest := []) hx hb hml hown hts hK hSA hsub hP hS hl.1 (by rw [e0]; exact va_recv hK.2.1 hP (ci := 1) (q0 := 0) rfl rfl) (by rw [e0]; exact k_X1_splitAllNumbers (lX_v X a) (newS_W zR).1) ml_X1_45 im_yX1_splitAllNumbers se_RX1_yX1_splitAllNumbers ini_RX1 co_yX1_splitAllNumbers rfl de_X1_splitAllNumbers ⟨by decide, by decide⟩ ⟨Nat.le_of_ble_eq_true rfl, Nat.le_of_ble_eq_true rfl⟩ rfl (by decide) dX1_init_84 ?_
  rintro r u H locs ⟨rfl, rfl⟩ hP - - hS
  refine W.widen (k := 10) (n := 124) (Nat.le_of_ble_eq_true rfl) (Nat.le_of_ble_eq_true rfl) ?_
  exact W.vret hx hb hr (fun t ht hW => ⟨⟨rfl, ledW X a, ⟨a, e0.symm, rfl⟩, by rw [ht]; exact hP, D_wl hD⟩, hS.F ht⟩) hS.2.2 dX1_init_87 hlocks

