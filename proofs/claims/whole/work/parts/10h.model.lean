/-! ===== a new model ===== -/
def idM : List Id3 := [(4, 0, 0), (4, 0, 1), (4, 0, 2), (4, 0, 3), (4, 0, 4), (4, 0, 5), (4, 0, 6), (4, 0, 7), (4, 0, 8), (4, 0, 9)]
def mX (X : Cx) (a : Nat → Nat) : Cx := (X.1, X.2.1, fun _ _ k => a k, idM, X.2.2.2.2)
def bM : Nat → Int32 := sbA (bgS (zR 2)) (mC (bgS (zR 2)))
def hM2 : Rg := up1 zR 2 bM
def iniM : Rg := up1 hM2 1 (va_cpy (hM2 2) (hM2 1) 0 0 127)
def modW (X : Cx) (a : Nat → Nat) : va_W := wl (mX X a) (setR zS 4 0 iniM)
def PsM (X : Cx) : Nat → va_W → Prop := fun h0 ws => ∃ a : Nat → Nat, a 0 = h0 ∧ ws = modW X a
theorem mX_v (X : Cx) (a : Nat → Nat) : Lv (mX X a) 4 0 := by
  intro k hk
  have h : ∀ k, k < 10 → (4, 0, k) ∈ idM := by decide
  exact h k hk
theorem mX_n (X : Cx) (a : Nat → Nat) : ∀ i ∈ ids (mX X a), i.2.2 < ncel i.1 := by
  show ∀ i ∈ idM, i.2.2 < ncel i.1
  decide
theorem zS_4 : setR zS 4 0 zR = zS := setR_id zS 4 0
set_option maxHeartbeats 4000000 in
set_option maxRecDepth 100000 in
theorem n_X4 {l : Launch} {X : Cx} : NewC l X yX4_init cX4_init 1 2 4 [.null, .null, .null, .null, .int 0, .null, .null, .null, .int 0, .int 0, .int 0, .int 0, .int 0, .null, .null, .int 0, .int 0] 9 1745 (PsM X) := by
  refine NewC_of (by decide) rfl (by decide) (by decide) dX4_init_0 dX4_init_1 ml_X4_1 ?_
  intro p e s m below meth c h0 ls F hl hP hD
  obtain ⟨hx, hb, hml, hr, hlocks, hown, hmi, hts, hB, hSA⟩ := F
  have hA : ∀ q, s.heap.size ≤ q → A1 h0 s.heap.size q := fun q h => Or.inr h
  have hS : va_S (A1 h0 s.heap.size) s.heap s.heap [] := va_S.rf
  refine lv_aload_n hx hb dX4_init_4 rfl (lv_at hl 0 rfl) ?_
  refine lv_bipush (v := nI 127) hx hb dX4_init_5 (by decide) ?_
  refine W_nf (C := RX4) (Tt := TX4) (N := 17) (ci := 4) (ti := 0) (n := 127) (k := 0) hx hb hown hts hB.1 hP hD hS hA hmi arr__int rfl rfl (fun _ _ h => h) rfl rfl (by decide) (by decide) inX4 tyX4 tyX4_ok nmX4 rfl (by decide) fl_X4_7 rfl rfl (fun q => ⟨rfl, rfl⟩) (Nat.le_of_ble_eq_true rfl) ⟨Nat.le_of_ble_eq_true rfl, Nat.le_of_ble_eq_true rfl⟩ dX4_init_7 dX4_init_9 (fun q1 H locs hP hD hS => ?_)
  refine lv_aload_n hx hb dX4_init_12 rfl (lv_at hl 0 rfl) ?_
  refine lv_bipush (v := nI 127) hx hb dX4_init_13 (by decide) ?_
  refine W_nf (C := RX4) (Tt := TX4) (N := 17) (ci := 4) (ti := 0) (n := 127) (k := 1) hx hb hown hts hB.1 hP hD hS hA hmi arr__int rfl rfl (fun _ _ h => h) rfl rfl (by decide) (by decide) inX4 tyX4 tyX4_ok nmX4 rfl (by decide) fl_X4_13 rfl rfl (fun q => ⟨rfl, rfl⟩) (Nat.le_of_ble_eq_true rfl) ⟨Nat.le_of_ble_eq_true rfl, Nat.le_of_ble_eq_true rfl⟩ dX4_init_15 dX4_init_17 (fun q2 H locs hP hD hS => ?_)
  refine lv_aload_n hx hb dX4_init_20 rfl (lv_at hl 0 rfl) ?_
  refine lv_bipush (v := nI 127) hx hb dX4_init_21 (by decide) ?_
  refine W_nf (C := RX4) (Tt := TX4) (N := 17) (ci := 4) (ti := 0) (n := 127) (k := 2) hx hb hown hts hB.1 hP hD hS hA hmi arr__int rfl rfl (fun _ _ h => h) rfl rfl (by decide) (by decide) inX4 tyX4 tyX4_ok nmX4 rfl (by decide) fl_X4_16 rfl rfl (fun q => ⟨rfl, rfl⟩) (Nat.le_of_ble_eq_true rfl) ⟨Nat.le_of_ble_eq_true rfl, Nat.le_of_ble_eq_true rfl⟩ dX4_init_23 dX4_init_25 (fun q3 H locs hP hD hS => ?_)
  refine lv_aload_n hx hb dX4_init_28 rfl (lv_at hl 0 rfl) ?_
  refine lv_sipush (v := nI 1016) hx hb dX4_init_29 (by decide) ?_
  refine W_nf (C := RX4) (Tt := TX4) (N := 17) (ci := 4) (ti := 0) (n := 1016) (k := 3) hx hb hown hts hB.1 hP hD hS hA hmi arr__int rfl rfl (fun _ _ h => h) rfl rfl (by decide) (by decide) inX4 tyX4 tyX4_ok nmX4 rfl (by decide) fl_X4_19 rfl rfl (fun q => ⟨rfl, rfl⟩) (Nat.le_of_ble_eq_true rfl) ⟨Nat.le_of_ble_eq_true rfl, Nat.le_of_ble_eq_true rfl⟩ dX4_init_32 dX4_init_34 (fun q4 H locs hP hD hS => ?_)
  refine lv_aload_n hx hb dX4_init_37 rfl (lv_at hl 0 rfl) ?_
  refine lv_sipush (v := nI 254) hx hb dX4_init_38 (by decide) ?_
  refine W_nf (C := RX4) (Tt := TX4) (N := 17) (ci := 4) (ti := 0) (n := 254) (k := 5) hx hb hown hts hB.1 hP hD hS hA hmi arr__int rfl rfl (fun _ _ h => h) rfl rfl (by decide) (by decide) inX4 tyX4 tyX4_ok nmX4 rfl (by decide) fl_X4_22 rfl rfl (fun q => ⟨rfl, rfl⟩) (Nat.le_of_ble_eq_true rfl) ⟨Nat.le_of_ble_eq_true rfl, Nat.le_of_ble_eq_true rfl⟩ dX4_init_41 dX4_init_43 (fun q5 H locs hP hD hS => ?_)
  refine lv_aload_n hx hb dX4_init_46 rfl (lv_at hl 0 rfl) ?_
  refine lv_iconst (v := nI 2) hx hb dX4_init_47 (by decide) ?_
  refine W_nf (C := RX4) (Tt := TX4) (N := 17) (ci := 4) (ti := 2) (n := 2) (k := 6) hx hb hown hts hB.1 hP hD hS hA hmi arr__boolean rfl rfl (fun _ _ h => h) rfl rfl (by decide) (by decide) inX4 tyX4 tyX4_ok nmX4 rfl (by decide) fl_X4_25 rfl rfl (fun q => ⟨rfl, rfl⟩) (Nat.le_of_ble_eq_true rfl) ⟨Nat.le_of_ble_eq_true rfl, Nat.le_of_ble_eq_true rfl⟩ dX4_init_48 dX4_init_50 (fun q6 H locs hP hD hS => ?_)
  refine lv_aload_n hx hb dX4_init_53 rfl (lv_at hl 0 rfl) ?_
  refine lv_bipush (v := nI 80) hx hb dX4_init_54 (by decide) ?_
  refine W_nf (C := RX4) (Tt := TX4) (N := 17) (ci := 4) (ti := 0) (n := 80) (k := 7) hx hb hown hts hB.1 hP hD hS hA hmi arr__int rfl rfl (fun _ _ h => h) rfl rfl (by decide) (by decide) inX4 tyX4 tyX4_ok nmX4 rfl (by decide) fl_X4_29 rfl rfl (fun q => ⟨rfl, rfl⟩) (Nat.le_of_ble_eq_true rfl) ⟨Nat.le_of_ble_eq_true rfl, Nat.le_of_ble_eq_true rfl⟩ dX4_init_56 dX4_init_58 (fun q7 H locs hP hD hS => ?_)
  refine lv_aload_n hx hb dX4_init_61 rfl (lv_at hl 0 rfl) ?_
  refine lv_bipush (v := nI 6) hx hb dX4_init_62 (by decide) ?_
  refine W_nf (C := RX4) (Tt := TX4) (N := 17) (ci := 4) (ti := 0) (n := 6) (k := 13) hx hb hown hts hB.1 hP hD hS hA hmi arr__int rfl rfl (fun _ _ h => h) rfl rfl (by decide) (by decide) inX4 tyX4 tyX4_ok nmX4 rfl (by decide) fl_X4_32 rfl rfl (fun q => ⟨rfl, rfl⟩) (Nat.le_of_ble_eq_true rfl) ⟨Nat.le_of_ble_eq_true rfl, Nat.le_of_ble_eq_true rfl⟩ dX4_init_64 dX4_init_66 (fun q8 H locs hP hD hS => ?_)
  refine lv_aload_n hx hb dX4_init_69 rfl (lv_at hl 0 rfl) ?_
  refine lv_bipush (v := nI 6) hx hb dX4_init_70 (by decide) ?_
  refine W_nf (C := RX4) (Tt := TX4) (N := 17) (ci := 4) (ti := 0) (n := 6) (k := 14) hx hb hown hts hB.1 hP hD hS hA hmi arr__int rfl rfl (fun _ _ h => h) rfl rfl (by decide) (by decide) inX4 tyX4 tyX4_ok nmX4 rfl (by decide) fl_X4_35 rfl rfl (fun q => ⟨rfl, rfl⟩) (Nat.le_of_ble_eq_true rfl) ⟨Nat.le_of_ble_eq_true rfl, Nat.le_of_ble_eq_true rfl⟩ dX4_init_72 dX4_init_74 (fun q9 H locs hP hD hS => ?_)
  obtain ⟨a, ea⟩ : ∃ a : Nat → Nat, a = fun k => match k with | 0 => h0 | 1 => q1 | 2 => q2 | 3 => q3 | 4 => q4 | 5 => q5 | 6 => q6 | 7 => q7 | 8 => q8 | _ => q9 := ⟨_, rfl⟩
  have hP : va_P X.1 vwCl (wl (mX X a) (setR zS 4 0 zR)) H := by rw [zS_4, ea]; exact hP
  have hD : va_D (A1 h0 s.heap.size) (wl (mX X a) (setR zS 4 0 zR)) := by rw [zS_4, ea]; exact hD
  have hK : KX (mX X a) s := hB.1.ext rfl rfl rfl (XD_of hD) (mX_n X a)
  have hsub := Ax_of hD
  have e0 : h0 = adr (mX X a) 4 0 0 := by rw [ea]; rfl
  refine lv_aload_n hx hb dX4_init_77 rfl (lv_at hl 0 rfl) ?_
  refine W_conV (X := mX X a) (A0 := A1 h0 s.heap.size) (σ := setR zS 4 0 zR) (C := RX4) (As := []) (rest := []) hx hb hml hown hts hK hSA hsub hP hS hl.1 (by rw [e0]; exact va_recv hK.2.1 hP (ci := 4) (q0 := 0) rfl rfl) (by rw [e0]; exact k_X4_beginRead (mX_v X a)) ml_X4_38 im_yX4_beginRead se_RX4_yX4_beginRead ini_RX4 co_yX4_beginRead rfl de_X4_beginRead ⟨by decide, by decide⟩ ⟨Nat.le_of_ble_eq_true rfl, Nat.le_of_ble_eq_true rfl⟩ rfl (by decide) dX4_init_78 ?_
  rintro r u H locs ⟨rfl, rfl⟩ hP - - hS
  refine lv_aload_n hx hb dX4_init_81 rfl (lv_at hl 0 rfl) ?_
  refine va_get (D := X.1) (ci := 4) (v := .ref (a 2)) (C := RX4) (T := TX4) (N := 17) hx hb hts inX4 hown hB.1.2.1 hP 0 (by rw [e0]; rfl) rfl 1 (by decide) (hts _ fl_X4_13) (fun _ h9 => h9) rfl dX4_init_82 ?_
  refine W_conS (X := mX X a) (A0 := A1 h0 s.heap.size) (σ := setR zS 4 0 (up1 zR 2 (bgS (zR 2)))) (As := [.ref (a 2)]) (rest := []) hx hb hml hown hts hK hSA hsub hP hS hl.1 (k_X4_setBudgets (X := mX X a) (q := 2) (mX_v X a 2 (by decide)) (fun _ => rfl) (bgS_W (zR 2))) ml_X4_41 sm_yX4_setBudgets ini_RX4 co_yX4_setBudgets de_X4_setBudgets ⟨by decide, by decide⟩ ⟨Nat.le_of_ble_eq_true rfl, Nat.le_of_ble_eq_true rfl⟩ rfl (by decide) dX4_init_85 ?_
  rintro r u H locs ⟨rfl, rfl⟩ hP - - hS
  refine lv_aload_n hx hb dX4_init_88 rfl (lv_at hl 0 rfl) ?_
  refine va_get (D := X.1) (ci := 4) (v := .ref (a 2)) (C := RX4) (T := TX4) (N := 17) hx hb hts inX4 hown hB.1.2.1 hP 0 (by rw [e0]; rfl) rfl 1 (by decide) (hts _ fl_X4_13) (fun _ h9 => h9) rfl dX4_init_89 ?_
  refine lv_iconst (v := nI 0) hx hb dX4_init_92 (by decide) ?_
  refine lv_aload_n hx hb dX4_init_93 rfl (lv_at hl 0 rfl) ?_
  refine va_get (D := X.1) (ci := 4) (v := .ref (a 1)) (C := RX4) (T := TX4) (N := 17) hx hb hts inX4 hown hB.1.2.1 hP 0 (by rw [e0]; rfl) rfl 0 (by decide) (hts _ fl_X4_7) (fun _ h9 => h9) rfl dX4_init_94 ?_
  refine lv_iconst (v := nI 0) hx hb dX4_init_97 (by decide) ?_
  refine W_conS (X := mX X a) (A0 := A1 h0 s.heap.size) (σ := setR zS 4 0 hM2) (As := [.ref (a 2), .int (nI 0), .ref (a 1), .int (nI 0)]) (rest := []) hx hb hml hown hts hK hSA hsub hP hS hl.1 (k_X4_copyState (X := mX X a) (p := 2) (q := 1) (np := 127) (nq := 127) (i := 0) (j := 0) (mX_v X a 2 (by decide)) (mX_v X a 1 (by decide)) (fun _ => rfl) (fun _ => rfl) (by decide) (by decide) (by decide) (by decide) (by decide)) ml_X4_45 sm_yX4_copyState ini_RX4 co_yX4_copyState de_X4_copyState ⟨by decide, by decide⟩ ⟨Nat.le_of_ble_eq_true rfl, Nat.le_of_ble_eq_true rfl⟩ rfl (by decide) dX4_init_98 ?_
  rintro r u H locs ⟨rfl, rfl⟩ hP - - hS
  refine W.widen (k := 9) (n := 1745) (Nat.le_of_ble_eq_true rfl) (Nat.le_of_ble_eq_true rfl) ?_
  exact W.vret hx hb hr (fun t ht hW => ⟨⟨rfl, modW X a, ⟨a, e0.symm, rfl⟩, by rw [ht]; exact hP, D_wl hD⟩, hS.F ht⟩) hS.2.2 dX4_init_101 hlocks

