/-! ===== the model's cells and the ledger's ===== -/
/-- where the ledger holds what the model's cell i holds -/
def sl (i : Nat) : Nat × Nat :=
  if i = 0 then (0, 0) else if i = 1 then (0, 1) else if i = 14 then (0, 2)
  else if i < 14 then (1 + (i - 2) % 3, (i - 2) / 3)
  else if i < 87 then ((if (i - 15) % 3 = 0 then 8 else if (i - 15) % 3 = 1 then 10 else 9), (i - 15) / 3)
  else if i < 91 then (4, i - 87) else if i < 95 then (5, i - 91) else if i < 111 then (6, i - 95)
  else (7, (i - 111) % 4 * 4 + (i - 111) / 4)
theorem sl_inj : ∀ i, i < 127 → ∀ j, j < 127 → sl i = sl j → i = j := by decide +kernel
theorem sl_b : ∀ a, a < 4 → sl (2 + 3 * a) = (1, a) ∧ sl (2 + 3 * a + 1) = (2, a) ∧ sl (2 + 3 * a + 2) = (3, a) := by decide +kernel
theorem sl_k : ∀ a, a < 4 → sl (87 + a) = (4, a) ∧ sl (91 + a) = (5, a) := by decide +kernel
theorem sl_h : ∀ a, a < 4 → ∀ c, c < 4 → sl (95 + 4 * a + c) = (6, a * 4 + c) ∧ sl (111 + 4 * c + a) = (7, a * 4 + c) := by decide +kernel
theorem sl_w : ∀ w, w < 24 → sl (15 + 3 * w) = (8, w) ∧ sl (15 + 3 * w + 1) = (10, w) ∧ sl (15 + 3 * w + 2) = (9, w) := by decide +kernel
/-- the cells that count, with n copies and w writes -/
def lvc (n w i : Nat) : Prop := i < 15 + 3 * w ∨ (87 ≤ i ∧ i < 111) ∨ ∃ a c, a < n ∧ c < n ∧ ¬ a = c ∧ i = 111 + 4 * c + a
def RV (L : Nat → Prop) (h : Rg) (m : Nat → Int32) : Prop := ∀ i, i < 127 → L i → m i = h (sl i).1 (sl i).2
def Rlm (h : Rg) (m : Nat → Int32) : Prop := Wf h ∧ RV (lvc (nC h) (nW h)) h m
theorem RV_up {L : Nat → Prop} {h : Rg} {m : Nat → Int32} (H : RV L h m) {i k j : Nat} (hi : i < 127) (e : sl i = (k, j)) (x : Int32) : RV (fun z => L z ∨ z = i) (up2 h k j x) (upd m i x) := by
  intro z hz hL
  by_cases q : z = i
  · subst q
    rw [upd_eq, e]
    show x = up2 h k j x k j
    unfold up2
    rw [if_pos rfl, upd_eq]
  · have hL : L z := hL.resolve_right q
    rw [upd_ne q, H z hz hL]
    have hne : ¬ ((sl z).1 = k ∧ (sl z).2 = j) := fun s => q (sl_inj z hz i hi (by rw [e, ← s.1, ← s.2]))
    unfold up2
    by_cases hk : (sl z).1 = k
    · rw [if_pos hk, upd_ne (fun s => hne ⟨hk, s⟩), hk]
    · rw [if_neg hk]
theorem RV_mono {L M : Nat → Prop} {h : Rg} {m : Nat → Int32} (H : RV L h m) (s : ∀ i, i < 127 → M i → L i) : RV M h m := fun i hi hm => H i hi (s i hi hm)
theorem RV_up1 {L : Nat → Prop} {h : Rg} {m : Nat → Int32} (H : RV L h m) {i k j : Nat} (hi : i < 127) (e : sl i = (k, j)) (x : Int32) : RV L (up2 h k j x) (upd m i x) := RV_mono (RV_up H hi e x) (fun _ _ h => Or.inl h)
theorem RV_at {L : Nat → Prop} {h : Rg} {m : Nat → Int32} (H : RV L h m) {i k j : Nat} (hi : i < 127) (e : sl i = (k, j)) (hL : L i) : m i = h k j := by
  have := H i hi hL
  rwa [e] at this
section RLL
variable {h : Rg} {m : Nat → Int32}
theorem RL_0 (H : Rlm h m) : m 0 = h 0 0 := RV_at H.2 (by decide) (by decide) (Or.inl (by omega))
theorem RL_1 (H : Rlm h m) : m 1 = h 0 1 := RV_at H.2 (by decide) (by decide) (Or.inl (by omega))
theorem RL_14 (H : Rlm h m) : m 14 = h 0 2 := RV_at H.2 (by decide) (by decide) (Or.inl (by omega))
theorem RL_C (H : Rlm h m) : mC m = nC h := by unfold mC nC; rw [RL_0 H]
theorem RL_W (H : Rlm h m) : mW m = nW h := by unfold mW nW; rw [RL_14 H]
theorem RL_Wm (H : Rlm h m) : Wm m := by
  have e1 := RL_C H
  have e2 := RL_W H
  refine ⟨by rw [e1, RL_0 H]; exact H.1.1, by rw [e1]; exact H.1.2.1, by rw [e1]; exact H.1.2.2.1, by rw [e2, RL_14 H]; exact H.1.2.2.2.1, by rw [e2]; exact H.1.2.2.2.2⟩
theorem RL_b (H : Rlm h m) {a : Nat} (ha : a < 4) : m (2 + 3 * a) = h 1 a ∧ m (2 + 3 * a + 1) = h 2 a ∧ m (2 + 3 * a + 2) = h 3 a := ⟨RV_at H.2 (by omega) (sl_b a ha).1 (Or.inl (by omega)), RV_at H.2 (by omega) (sl_b a ha).2.1 (Or.inl (by omega)), RV_at H.2 (by omega) (sl_b a ha).2.2 (Or.inl (by omega))⟩
theorem RL_k (H : Rlm h m) {a : Nat} (ha : a < 4) : m (87 + a) = h 4 a := RV_at H.2 (by omega) (sl_k a ha).1 (Or.inr (Or.inl (by omega)))
theorem RL_f (H : Rlm h m) {a : Nat} (ha : a < 4) : m (91 + a) = h 5 a := RV_at H.2 (by omega) (sl_k a ha).2 (Or.inr (Or.inl (by omega)))
theorem RL_h (H : Rlm h m) {a c : Nat} (ha : a < 4) (hc : c < 4) : m (95 + 4 * a + c) = h 6 (a * 4 + c) := RV_at H.2 (by omega) (sl_h a ha c hc).1 (Or.inr (Or.inl (by omega)))
theorem RL_g (H : Rlm h m) {a c : Nat} (ha : a < nC h) (hc : c < nC h) (hac : ¬ a = c) : m (111 + 4 * c + a) = h 7 (a * 4 + c) := by
  have h4 := H.1.2.2.1
  exact RV_at H.2 (by omega) (sl_h a (by omega) c (by omega)).2 (Or.inr (Or.inr ⟨a, c, ha, hc, hac, rfl⟩))
theorem RL_w (H : Rlm h m) {w : Nat} (hw : w < nW h) : m (15 + 3 * w) = h 8 w ∧ m (15 + 3 * w + 1) = h 10 w ∧ m (15 + 3 * w + 2) = h 9 w := by
  have h4 := H.1.2.2.2.2
  exact ⟨RV_at H.2 (by omega) (sl_w w (by omega)).1 (Or.inl (by omega)), RV_at H.2 (by omega) (sl_w w (by omega)).2.1 (Or.inl (by omega)), RV_at H.2 (by omega) (sl_w w (by omega)).2.2 (Or.inl (by omega))⟩
/-- one cell of both, not a number of copies or writes -/
theorem RL_up (H : Rlm h m) {i k j : Nat} (hi : i < 127) (e : sl i = (k, j)) (hk : ¬ k = 0) (x : Int32) : Rlm (up2 h k j x) (upd m i x) := by
  have e0 : up2 h k j x 0 = h 0 := if_neg (fun z => hk z.symm)
  refine ⟨H.1.congr e0, ?_⟩
  rw [nC_congr e0, nW_congr e0]
  exact RV_up1 H.2 hi e x
theorem RL_by (H : Rlm h m) (c : Int32) : wBy (mby m) c (mW m) = wBy (h 8) c (nW h) := by
  rw [RL_W H]
  exact wBy_ext _ (fun i hi => (RL_w H hi).1)
theorem RL_ow (H : Rlm h m) {a : Nat} (c : Nat) (ha : a < 4) : mOw m c a = owedS h c a := by
  unfold mOw owedS
  rw [RL_by H, RL_k H ha, RL_W H]
  exact wSum_ext _ H.1.2.2.2.2 (fun i hi => (RL_w H hi).2.1) (fun _ _ => rfl)
theorem RL_lf (H : Rlm h m) {a c : Nat} (ha : a < nC h) (hc : c < nC h) (hac : ¬ a = c) : mLf m c a = leftS h c a := by
  have h4 := H.1.2.2.1
  unfold mLf leftS
  rw [RL_g H ha hc hac, RL_ow H c (by omega)]
theorem RL_sum (H : Rlm h m) (s : Int32) : wSum (mwt m) s (mW m) = wSum (h 10) s (nW h) := by
  rw [RL_W H]
  exact wSum_ext _ H.1.2.2.2.2 (fun i hi => (RL_w H hi).2.1) (fun _ _ => rfl)
theorem RL_kz (H : Rlm h m) : Rlm (up2 h 5 0 (h 4 0)) (mKz m) := by
  unfold mKz
  rw [show m 87 = h 4 0 from RL_k H (a := 0) (by decide)]
  exact RL_up H (by decide) (sl_k 0 (by decide)).2 (by decide) _
theorem up2_comm (h : Rg) {k1 j1 k2 j2 : Nat} (x y : Int32) (hne : ¬ (k1 = k2 ∧ j1 = j2)) : up2 (up2 h k1 j1 x) k2 j2 y = up2 (up2 h k2 j2 y) k1 j1 x := by
  by_cases e : k1 = k2
  · subst e
    have hj : ¬ j1 = j2 := fun z => hne ⟨rfl, z⟩
    funext z
    unfold up2
    by_cases q : z = k1
    · rw [if_pos q, if_pos q, if_pos rfl, if_pos rfl]
      exact upd_comm _ hj x y
    · rw [if_neg q, if_neg q, if_neg q, if_neg q]
  · funext z
    unfold up2
    by_cases q1 : z = k1
    · have q2 : ¬ z = k2 := fun s => e (q1.symm.trans s)
      rw [if_neg q2, if_pos q1, if_pos q1, if_neg e]
    · by_cases q2 : z = k2
      · rw [if_pos q2, if_neg q1, if_pos q2, if_neg (fun s => e s.symm)]
      · rw [if_neg q2, if_neg q1, if_neg q1, if_neg q2]
/-- push, in both -/
theorem RL_push (H : Rlm h m) {a c : Nat} (ha : a < 4) (hc : c < 4) : Rlm (pushS h c a) (mPu m c a) := by
  unfold pushS mPu learnS
  rw [RL_by H, RL_k H ha]
  have H1 := RL_up H (i := 87 + a) (by omega) (sl_k a ha).1 (by decide) (h 4 a ||| wBy (h 8) (nI c) (nW h))
  have e1 : upd m (87 + a) (h 4 a ||| wBy (h 8) (nI c) (nW h)) 1 = h 0 1 := by rw [upd_ne (by omega)]; exact RL_1 H
  rw [e1]
  have H2 := RL_up H1 (i := 95 + 4 * a + c) (by omega) (sl_h a ha c hc).1 (by decide) (h 0 1)
  have H3 := RL_kz H2
  rw [up2_comm _ _ _ (by omega)] at H3
  exact H3
end RLL
