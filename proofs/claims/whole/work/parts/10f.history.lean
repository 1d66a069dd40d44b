/-! ===== a new history ===== -/
noncomputable def hisW (X : Cx) (hi : Nat → Nat) (al : Nat → Nat → Nat) (fr : Nat → Option Nat) : va_W := (hi 0, .inr (0, [.ref (hi 1), .int 0, .int 0])) :: (([] : va_W) ++ (hi 1, (Sum.inl (X.2.1 3, 8, Sum.inr (Sum.inr (Sum.inr (Sum.inr fr)))) : va_E)) :: (([] : va_W) ++ ((((((((([] : va_W) ++ ledW X (al 0)) ++ ledW X (al 1)) ++ ledW X (al 2)) ++ ledW X (al 3)) ++ ledW X (al 4)) ++ ledW X (al 5)) ++ ledW X (al 6)) ++ ledW X (al 7))))
def PsH (X : Cx) : Nat → va_W → Prop := fun h0 ws => ∃ (hi : Nat → Nat) (al : Nat → Nat → Nat) (fr : Nat → Option Nat), hi 0 = h0 ∧ (∀ j, j < 8 → fr j = some (al j 0)) ∧ ws = hisW X hi al fr
set_option maxHeartbeats 4000000 in
set_option maxRecDepth 100000 in
theorem n_X0 {l : Launch} {X : Cx} : NewC l X yX0_init cX0_init 2 4 0 [.null, .int 0, .int 0] 89 1104 (PsH X) := by
  refine NewC_of (by decide) rfl (by decide) (by decide) dX0_init_0 dX0_init_1 ml_X0_3 ?_
  intro p e s m below meth c h0 ls F hl hP hD
  obtain ⟨hx, hb, hml, hr, hlocks, hown, hmi, hts, hB, hSA⟩ := F
  have hA : ∀ q, s.heap.size ≤ q → A1 h0 s.heap.size q := fun q h => Or.inr h
  have hS : va_S (A1 h0 s.heap.size) s.heap s.heap [] := va_S.rf
  refine lv_aload_n hx hb dX0_init_4 rfl (lv_at hl 0 rfl) ?_
  refine lv_bipush (v := nI 8) hx hb dX0_init_5 (by decide) ?_
  refine W_nq (n := 8) hx hb hown hts hB hP hD hS hA cl_X0_9 rfl (by decide) ⟨Nat.le_of_ble_eq_true rfl, Nat.le_of_ble_eq_true rfl⟩ dX0_init_7 (fun qa H hP hD hS => ?_)
  refine W_pf (ws := [(qa, (Sum.inl (X.2.1 3, 8, Sum.inr (Sum.inr (Sum.inr (Sum.inr (fun _ => none))))) : va_E))]) (C := RX0) (Tt := TX0) (N := 3) (ci := 0) (k := 0) hx hb hown hts hB.1 hP hD hS hmi inX0 tyX0 tyX0_ok nmX0 rfl (by decide) fl_X0_11 rfl rfl (fun q => ⟨rfl, rfl⟩) (Nat.le_of_ble_eq_true rfl) dX0_init_10 (fun H locs hP hD hS => ?_)
  refine lv_aload_n hx hb dX0_init_13 rfl (lv_at hl 0 rfl) ?_
  refine lv_iconst (v := 0) hx hb dX0_init_14 (by decide) ?_
  refine W_z (C := RX0) (Tt := TX0) (N := 3) (ci := 0) (k := 1) hx hb hown hts hB.1 hP hD hS inX0 tyX0 tyX0_ok nmX0 rfl (by decide) fl_X0_17 rfl rfl (Nat.le_of_ble_eq_true rfl) dX0_init_15 (fun H locs hP hD hS => ?_)
  refine lv_aload_n hx hb dX0_init_18 rfl (lv_at hl 0 rfl) ?_
  refine lv_iconst (v := 0) hx hb dX0_init_19 (by decide) ?_
  refine W_z (C := RX0) (Tt := TX0) (N := 3) (ci := 0) (k := 2) hx hb hown hts hB.1 hP hD hS inX0 tyX0 tyX0_ok nmX0 rfl (by decide) fl_X0_21 rfl rfl (Nat.le_of_ble_eq_true rfl) dX0_init_20 (fun H locs hP hD hS => ?_)
  refine lv_iconst (v := nI 0) hx hb dX0_init_23 (by decide) ?_
  refine lv_istore_n (lv' := [(1, .int (nI 0)), (0, .ref h0)]) hx hb dX0_init_24 rfl hl (by decide) rfl (fun ls hl => ?_)
  refine his_step (M1 := []) (M2 := []) (L := ([] : va_W)) (qa := qa) (f := (fun _ => none)) (i := 0) hx hb hml hown hts hB hSA hA (by decide) hl hP hD hS rfl ⟨by decide, by decide⟩ ⟨Nat.le_of_ble_eq_true rfl, Nat.le_of_ble_eq_true rfl⟩ (fun a0 H locs ls hl hP hD hS => ?_)
  refine his_step (M1 := []) (M2 := []) (L := (([] : va_W) ++ ledW X a0)) (qa := qa) (f := (va_up (fun _ => none) 0 (some (a0 0)))) (i := 1) hx hb hml hown hts hB hSA hA (by decide) hl hP hD hS rfl ⟨by decide, by decide⟩ ⟨Nat.le_of_ble_eq_true rfl, Nat.le_of_ble_eq_true rfl⟩ (fun a1 H locs ls hl hP hD hS => ?_)
  refine his_step (M1 := []) (M2 := []) (L := ((([] : va_W) ++ ledW X a0) ++ ledW X a1)) (qa := qa) (f := (va_up (va_up (fun _ => none) 0 (some (a0 0))) 1 (some (a1 0)))) (i := 2) hx hb hml hown hts hB hSA hA (by decide) hl hP hD hS rfl ⟨by decide, by decide⟩ ⟨Nat.le_of_ble_eq_true rfl, Nat.le_of_ble_eq_true rfl⟩ (fun a2 H locs ls hl hP hD hS => ?_)
  refine his_step (M1 := []) (M2 := []) (L := (((([] : va_W) ++ ledW X a0) ++ ledW X a1) ++ ledW X a2)) (qa := qa) (f := (va_up (va_up (va_up (fun _ => none) 0 (some (a0 0))) 1 (some (a1 0))) 2 (some (a2 0)))) (i := 3) hx hb hml hown hts hB hSA hA (by decide) hl hP hD hS rfl ⟨by decide, by decide⟩ ⟨Nat.le_of_ble_eq_true rfl, Nat.le_of_ble_eq_true rfl⟩ (fun a3 H locs ls hl hP hD hS => ?_)
  refine his_step (M1 := []) (M2 := []) (L := ((((([] : va_W) ++ ledW X a0) ++ ledW X a1) ++ ledW X a2) ++ ledW X a3)) (qa := qa) (f := (va_up (va_up (va_up (va_up (fun _ => none) 0 (some (a0 0))) 1 (some (a1 0))) 2 (some (a2 0))) 3 (some (a3 0)))) (i := 4) hx hb hml hown hts hB hSA hA (by decide) hl hP hD hS rfl ⟨by decide, by decide⟩ ⟨Nat.le_of_ble_eq_true rfl, Nat.le_of_ble_eq_true rfl⟩ (fun a4 H locs ls hl hP hD hS => ?_)
  refine his_step (M1 := []) (M2 := []) (L := (((((([] : va_W) ++ ledW X a0) ++ ledW X a1) ++ ledW X a2) ++ ledW X a3) ++ ledW X a4)) (qa := qa) (f := (va_up (va_up (va_up (va_up (va_up (fun _ => none) 0 (some (a0 0))) 1 (some (a1 0))) 2 (some (a2 0))) 3 (some (a3 0))) 4 (some (a4 0)))) (i := 5) hx hb hml hown hts hB hSA hA (by decide) hl hP hD hS rfl ⟨by decide, by decide⟩ ⟨Nat.le_of_ble_eq_true rfl, Nat.le_of_ble_eq_true rfl⟩ (fun a5 H locs ls hl hP hD hS => ?_)
  refine his_step (M1 := []) (M2 := []) (L := ((((((([] : va_W) ++ ledW X a0) ++ ledW X a1) ++ ledW X a2) ++ ledW X a3) ++ ledW X a4) ++ ledW X a5)) (qa := qa) (f := (va_up (va_up (va_up (va_up (va_up (va_up (fun _ => none) 0 (some (a0 0))) 1 (some (a1 0))) 2 (some (a2 0))) 3 (some (a3 0))) 4 (some (a4 0))) 5 (some (a5 0)))) (i := 6) hx hb hml hown hts hB hSA hA (by decide) hl hP hD hS rfl ⟨by decide, by decide⟩ ⟨Nat.le_of_ble_eq_true rfl, Nat.le_of_ble_eq_true rfl⟩ (fun a6 H locs ls hl hP hD hS => ?_)
  refine his_step (M1 := []) (M2 := []) (L := (((((((([] : va_W) ++ ledW X a0) ++ ledW X a1) ++ ledW X a2) ++ ledW X a3) ++ ledW X a4) ++ ledW X a5) ++ ledW X a6)) (qa := qa) (f := (va_up (va_up (va_up (va_up (va_up (va_up (va_up (fun _ => none) 0 (some (a0 0))) 1 (some (a1 0))) 2 (some (a2 0))) 3 (some (a3 0))) 4 (some (a4 0))) 5 (some (a5 0))) 6 (some (a6 0)))) (i := 7) hx hb hml hown hts hB hSA hA (by decide) hl hP hD hS rfl ⟨by decide, by decide⟩ ⟨Nat.le_of_ble_eq_true rfl, Nat.le_of_ble_eq_true rfl⟩ (fun a7 H locs ls hl hP hD hS => ?_)
  refine lv_iload_n hx hb dX0_init_25 rfl (lv_at hl 0 rfl) ?_
  refine lv_bipush (v := nI 8) hx hb dX0_init_26 (by decide) ?_
  refine lv_icmp_ge (tgt := 50) hx hb dX0_init_28 (by decide) (fun _ => ?_) (fun z => absurd (by decide) z)
  refine W.widen (k := 89) (n := 1104) (Nat.le_of_ble_eq_true rfl) (Nat.le_of_ble_eq_true rfl) ?_
  exact W.vret hx hb hr (fun t ht hW => ⟨⟨rfl, hisW X (fun k => match k with | 0 => h0 | _ => qa) (fun j => match j with | 0 => a0 | 1 => a1 | 2 => a2 | 3 => a3 | 4 => a4 | 5 => a5 | 6 => a6 | _ => a7) (va_up (va_up (va_up (va_up (va_up (va_up (va_up (va_up (fun _ => none) 0 (some (a0 0))) 1 (some (a1 0))) 2 (some (a2 0))) 3 (some (a3 0))) 4 (some (a4 0))) 5 (some (a5 0))) 6 (some (a6 0))) 7 (some (a7 0))), ⟨_, _, _, rfl, (fun j hj => match j, hj with | 0, _ => rfl | 1, _ => rfl | 2, _ => rfl | 3, _ => rfl | 4, _ => rfl | 5, _ => rfl | 6, _ => rfl | 7, _ => rfl), rfl⟩, by rw [ht]; exact hP, hD⟩, hS.F ht⟩) hS.2.2 dX0_init_50 hlocks

