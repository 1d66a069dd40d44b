/-! ===== the whole world ===== -/
def IDS : List Id3 := [(0, 0, 0), (1, 0, 0), (1, 0, 1), (1, 0, 2), (1, 0, 3), (1, 0, 4), (1, 0, 5), (1, 0, 6), (1, 0, 7), (1, 0, 8), (1, 0, 9), (1, 0, 10), (1, 1, 0), (1, 1, 1), (1, 1, 2), (1, 1, 3), (1, 1, 4), (1, 1, 5), (1, 1, 6), (1, 1, 7), (1, 1, 8), (1, 1, 9), (1, 1, 10), (2, 0, 0), (2, 0, 1), (1, 2, 0), (1, 2, 1), (1, 2, 2), (1, 2, 3), (1, 2, 4), (1, 2, 5), (1, 2, 6), (1, 2, 7), (1, 2, 8), (1, 2, 9), (1, 2, 10), (1, 3, 0), (1, 3, 1), (1, 3, 2), (1, 3, 3), (1, 3, 4), (1, 3, 5), (1, 3, 6), (1, 3, 7), (1, 3, 8), (1, 3, 9), (1, 3, 10), (1, 4, 0), (1, 4, 1), (1, 4, 2), (1, 4, 3), (1, 4, 4), (1, 4, 5), (1, 4, 6), (1, 4, 7), (1, 4, 8), (1, 4, 9), (1, 4, 10), (1, 5, 0), (1, 5, 1), (1, 5, 2), (1, 5, 3), (1, 5, 4), (1, 5, 5), (1, 5, 6), (1, 5, 7), (1, 5, 8), (1, 5, 9), (1, 5, 10), (1, 6, 0), (1, 6, 1), (1, 6, 2), (1, 6, 3), (1, 6, 4), (1, 6, 5), (1, 6, 6), (1, 6, 7), (1, 6, 8), (1, 6, 9), (1, 6, 10), (1, 7, 0), (1, 7, 1), (1, 7, 2), (1, 7, 3), (1, 7, 4), (1, 7, 5), (1, 7, 6), (1, 7, 7), (1, 7, 8), (1, 7, 9), (1, 7, 10), (1, 8, 0), (1, 8, 1), (1, 8, 2), (1, 8, 3), (1, 8, 4), (1, 8, 5), (1, 8, 6), (1, 8, 7), (1, 8, 8), (1, 8, 9), (1, 8, 10), (1, 9, 0), (1, 9, 1), (1, 9, 2), (1, 9, 3), (1, 9, 4), (1, 9, 5), (1, 9, 6), (1, 9, 7), (1, 9, 8), (1, 9, 9), (1, 9, 10), (3, 0, 0), (3, 0, 1), (3, 0, 2), (3, 0, 3), (3, 0, 4), (0, 0, 1), (0, 0, 2), (0, 0, 3), (0, 0, 4), (0, 0, 5), (1, 10, 0), (1, 10, 1), (1, 10, 2), (1, 10, 3), (1, 10, 4), (1, 10, 5), (1, 10, 6), (1, 10, 7), (1, 10, 8), (1, 10, 9), (1, 10, 10), (1, 11, 0), (1, 11, 1), (1, 11, 2), (1, 11, 3), (1, 11, 4), (1, 11, 5), (1, 11, 6), (1, 11, 7), (1, 11, 8), (1, 11, 9), (1, 11, 10), (4, 0, 0), (4, 0, 1), (4, 0, 2), (4, 0, 3), (4, 0, 4), (4, 0, 5), (4, 0, 6), (4, 0, 7), (4, 0, 8), (4, 0, 9)]
def aX (o a0 a1 hi : Nat → Nat) (al : Nat → Nat → Nat) (tx b0 b1 md : Nat → Nat) : Nat → Nat → Nat → Nat := fun K r k => match K with
  | 0 => o k
  | 1 => (match r with | 0 => a0 k | 1 => a1 k | 2 => al 0 k | 3 => al 1 k | 4 => al 2 k | 5 => al 3 k | 6 => al 4 k | 7 => al 5 k | 8 => al 6 k | 9 => al 7 k | 10 => b0 k | 11 => b1 k | _ => 0)
  | 2 => hi k
  | 3 => tx k
  | _ => md k
def fX (X : Cx) (o a0 a1 hi : Nat → Nat) (al : Nat → Nat → Nat) (tx b0 b1 md : Nat → Nat) : Cx := (X.1, X.2.1, aX o a0 a1 hi al tx b0 b1 md, IDS, X.2.2.2.2)
noncomputable def s0 : Hp := fun K _ => match K with
  | 1 => iniL
  | 4 => iniM
  | _ => zR
theorem asm_f (x y : Nat × va_E) (T r z : va_W) : (x :: (T ++ y :: r)) ++ z = x :: (T ++ y :: (r ++ z)) := by simp
theorem asm_h (x y z : Nat × va_E) (A r t w : va_W) : x :: (((A ++ (y :: (([] : va_W) ++ z :: (([] : va_W) ++ r)))) ++ t) ++ w) = x :: ((A ++ [y]) ++ z :: (r ++ (t ++ w))) := by simp
set_option maxHeartbeats 4000000 in
set_option maxRecDepth 100000 in
theorem wl_f (X : Cx) (o a0 a1 hi : Nat → Nat) (al : Nat → Nat → Nat) (tx b0 b1 md : Nat → Nat) : wl (fX X o a0 a1 hi al tx b0 b1 md) s0 = (o 0, (Sum.inr (3, [.ref (a0 0), .ref (a1 0), .ref (hi 0), .ref (tx 0), .ref (o 1), .ref (o 2), .ref (o 3), .ref (o 4), .int 0, .ref (o 5)]) : va_E)) :: ((((([] : va_W) ++ ledW X a0) ++ ledW X a1) ++ [(hi 0, (Sum.inr (0, [.ref (hi 1), .int 0, .int 0]) : va_E))]) ++ (hi 1, (Sum.inl (X.2.1 3, 8, Sum.inr (Sum.inr (Sum.inr (Sum.inr (fun j => some (aX o a0 a1 hi al tx b0 b1 md 1 (2 + j) 0)))))) : va_E)) :: (((((((((([] : va_W) ++ ledW X (al 0)) ++ ledW X (al 1)) ++ ledW X (al 2)) ++ ledW X (al 3)) ++ ledW X (al 4)) ++ ledW X (al 5)) ++ ledW X (al 6)) ++ ledW X (al 7)) ++ (txW X tx ++ (o 1, (Sum.inl (X.2.1 3, 2, Sum.inr (Sum.inr (Sum.inr (Sum.inr (fun j => some (aX o a0 a1 hi al tx b0 b1 md 1 (10 + j) 0)))))) : va_E)) :: (([(o 2, (Sum.inl (X.2.1 2, 2, Sum.inl (fun _ => 0)) : va_E)), (o 3, (Sum.inl (X.2.1 0, 6, Sum.inl (fun _ => 0)) : va_E)), (o 4, (Sum.inl (X.2.1 0, 6, Sum.inl (fun _ => 0)) : va_E)), (o 5, (Sum.inl (X.2.1 0, 4, Sum.inl (fun _ => 0)) : va_E))] ++ ((([] : va_W) ++ ledW X b0) ++ ledW X b1)) ++ modW X md)))) := rfl
theorem wl_all {X : Cx} {o a0 a1 hi : Nat → Nat} {al : Nat → Nat → Nat} {tx b0 b1 md : Nat → Nat} {fr fi : Nat → Option Nat} {H : Heap} {B : Nat → Prop} (hfr : ∀ j, j < 8 → fr j = some (al j 0)) (hf0 : fi 0 = some (b0 0)) (hf1 : fi 1 = some (b1 0)) (hP : va_P X.1 vwCl (outW X o a0 a1 hi al fr tx fi b0 b1 ++ modW X md) H) (hD : va_D B (outW X o a0 a1 hi al fr tx fi b0 b1 ++ modW X md)) : va_P X.1 vwCl (wl (fX X o a0 a1 hi al tx b0 b1 md) s0) H ∧ va_D B (wl (fX X o a0 a1 hi al tx b0 b1 md) s0) := by
  unfold outW at hP hD
  rw [asm_f] at hP hD
  have hP := ref_P (g := (fun j => some (aX o a0 a1 hi al tx b0 b1 md 1 (10 + j) 0))) (fun j hj => match j, hj with | 0, _ => hf0 | 1, _ => hf1) hP
  have hD := D_mid (y := (Sum.inl (X.2.1 3, 2, Sum.inr (Sum.inr (Sum.inr (Sum.inr (fun j => some (aX o a0 a1 hi al tx b0 b1 md 1 (10 + j) 0)))))) : va_E)) hD
  unfold hisW at hP hD
  rw [asm_h] at hP hD
  have hP := ref_P (g := (fun j => some (aX o a0 a1 hi al tx b0 b1 md 1 (2 + j) 0))) (fun j hj => match j, hj with | 0, _ => hfr 0 (by decide) | 1, _ => hfr 1 (by decide) | 2, _ => hfr 2 (by decide) | 3, _ => hfr 3 (by decide) | 4, _ => hfr 4 (by decide) | 5, _ => hfr 5 (by decide) | 6, _ => hfr 6 (by decide) | 7, _ => hfr 7 (by decide)) hP
  have hD := D_mid (y := (Sum.inl (X.2.1 3, 8, Sum.inr (Sum.inr (Sum.inr (Sum.inr (fun j => some (aX o a0 a1 hi al tx b0 b1 md 1 (2 + j) 0)))))) : va_E)) hD
  rw [wl_f]
  exact ⟨hP, hD⟩
theorem fX_L (X : Cx) (o a0 a1 hi : Nat → Nat) (al : Nat → Nat → Nat) (tx b0 b1 md : Nat → Nat) : LVs (fX X o a0 a1 hi al tx b0 b1 md) ∧ Lv (fX X o a0 a1 hi al tx b0 b1 md) 4 0 := by
  have g0 : ∀ k, k < 6 → (0, 0, k) ∈ IDS := by decide +kernel
  have g1 : ∀ r, r < 12 → ∀ k, k < 11 → (1, r, k) ∈ IDS := by decide +kernel
  have g2 : ∀ k, k < 2 → (2, 0, k) ∈ IDS := by decide +kernel
  have g3 : ∀ k, k < 5 → (3, 0, k) ∈ IDS := by decide +kernel
  have g4 : ∀ k, k < 10 → (4, 0, k) ∈ IDS := by decide +kernel
  exact ⟨⟨g0, g1, g2, g3⟩, g4⟩
theorem fX_n (X : Cx) (o a0 a1 hi : Nat → Nat) (al : Nat → Nat → Nat) (tx b0 b1 md : Nat → Nat) : ∀ i ∈ ids (fX X o a0 a1 hi al tx b0 b1 md), i.2.2 < ncel i.1 := by
  have h : ∀ i ∈ IDS, i.2.2 < ncel i.1 := by decide +kernel
  exact h
/-- as at first, both -/
theorem Rel_0 : Rel s0 := by
  have g := GD_spa (RT_new zR (zR 2))
  refine Rel_of (nx := 0) (kn := 0) (sn := 0) (tl := 0) ?_ nI_0.symm (by decide) nI_0.symm (by decide) nI_0.symm (fun i hi => absurd hi (Nat.not_lt_zero _)) (fun j hj => ⟨rfl, fun z => absurd rfl z⟩) nI_0.symm (by decide) nI_0.symm (fun i hi => absurd hi (Nat.not_lt_zero _)) nI_0.symm (by decide) nI_0.symm rfl
  refine GD_ext g (fun i hi => ?_)
  have := cpy_at (f := hM2 2) (g := hM2 1) (i := 0) (j := 0) hi
  rw [Nat.zero_add] at this
  exact this

