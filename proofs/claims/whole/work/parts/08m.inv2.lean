/-! ===== each deed keeps a ledger and the model's array together ===== -/
theorem IV.cg {h h' : Rg} (H : IV h) (eC : nC h' = nC h) (eW : nW h' = nW h) (e1 : h' 1 = h 1) (e4 : h' 4 = h 4) (e5 : h' 5 = h 5) (e7 : h' 7 = h 7) (e8 : h' 8 = h 8) (e10 : h' 10 = h 10) : IV h' := by
  unfold IV JV KV WV NV BV BP ow at *
  rw [eC, eW, e1, e4, e5, e7, e8, e10]
  exact H
theorem GD_pull {h : Rg} {m : Nat → Int32} (H : GD h m) {a c : Nat} (ha : a < 4) (hc : c < 4) : GD (pullS h a c) (mPl m a c) := by
  obtain ⟨R, J, V, hW, hN, hB⟩ := H
  have g := Gr_pull J (a := a) hc
  exact ⟨RL_pull R J ha hc, JV_pull J ha hc, KV_pull V J ha hc, WV_Gr hW g, NV_Gr hN g, BP_Gr R.1.2.2.2.2 hB g⟩
theorem GD_read {h : Rg} {m : Nat → Int32} (H : GD h m) {a : Nat} (ha : a < 4) : GD (readS h a).1 (mRd m a).1 ∧ (readS h a).2 = (mRd m a).2 := by
  obtain ⟨R, J, V, hW, hN, hB⟩ := H
  obtain ⟨R1, J1, V1, e1⟩ := RL_read R J V ha
  have g := Gr_read J R.1.2.2.1 ha
  exact ⟨⟨R1, J1, V1, WV_Gr hW g, NV_Gr hN g, BP_Gr R.1.2.2.2.2 hB g⟩, e1⟩
theorem GD_time {h : Rg} {m : Nat → Int32} (H : GD h m) (x : Int32) : GD (up2 h 0 1 x) (upd m 1 x) := by
  obtain ⟨R, I⟩ := H
  have eC : nC (up2 h 0 1 x) = nC h := rfl
  have eW : nW (up2 h 0 1 x) = nW h := rfl
  refine ⟨⟨?_, ?_⟩, I.cg eC eW rfl rfl rfl rfl rfl rfl⟩
  · exact R.1
  · rw [eC, eW]
    exact RV_up1 R.2 (by decide) (by decide) x
/-! a new write -/
theorem JV_newW {h : Rg} (J : JV h) (c : Nat) (w : Int32) : JV (newWS h c w) := by
  rw [newW_eq]
  show upd (h 5) 0 (upd (h 4) c (h 4 c ||| (nI 1 <<< (h 0 2 &&& 31))) 0) 0 = upd (h 4) c (h 4 c ||| (nI 1 <<< (h 0 2 &&& 31))) 0 ∧ ∀ a, a < 4 → upd (h 4) c (h 4 c ||| (nI 1 <<< (h 0 2 &&& 31))) a ||| upd (h 5) 0 (upd (h 4) c (h 4 c ||| (nI 1 <<< (h 0 2 &&& 31))) 0) a = upd (h 4) c (h 4 c ||| (nI 1 <<< (h 0 2 &&& 31))) a
  refine ⟨upd_eq, fun a ha => ?_⟩
  by_cases h0 : a = 0
  · rw [h0, upd_eq, Int32.or_self]
  · rw [upd_ne h0]
    by_cases e : a = c
    · rw [← e, upd_eq]
      exact or_3 (J.2 a ha)
    · rw [upd_ne e]
      exact J.2 a ha
theorem KV_newW {h : Rg} (hf : Wf h) (hM : nW h < 24) (V : KV h) (c : Nat) (w : Int32) : KV (newWS h c w) := by
  intro b hb i hi hn
  rw [(newWS_W hf hM c w).2.2] at hn
  rw [newW_eq]
  show gb (upd (h 4) c (h 4 c ||| (nI 1 <<< (h 0 2 &&& 31))) b) i = false
  have e0 := hf.2.2.2.1
  by_cases e : b = c
  · rw [← e, upd_eq, or_gb, V b hb i hi (by omega), e0, pw_gb (by omega)]
    have : ¬ i = nW h := by omega
    simp [this]
  · rw [upd_ne e]
    exact V b hb i hi (by omega)
theorem newW_10 (h : Rg) (c : Nat) (w : Int32) : newWS h c w 10 = upd (h 10) (nW h) w := by rw [newW_eq]; rfl
theorem newW_8 (h : Rg) (c : Nat) (w : Int32) : newWS h c w 8 = upd (h 8) (nW h) (nI c) := by rw [newW_eq]; rfl
theorem newW_7 (h : Rg) (c : Nat) (w : Int32) : newWS h c w 7 = h 7 := by rw [newW_eq]; rfl
theorem newW_1 (h : Rg) (c : Nat) (w : Int32) : newWS h c w 1 = h 1 := by rw [newW_eq]; rfl
theorem newW_4 (h : Rg) (c : Nat) (w : Int32) : newWS h c w 4 = upd (h 4) c (h 4 c ||| (nI 1 <<< (h 0 2 &&& 31))) := by rw [newW_eq]; rfl
theorem WV_newW {h : Rg} (hf : Wf h) (hM : nW h < 24) (H : WV h) (c : Nat) {w : Nat} (hw : w ≤ 9) : WV (newWS h c (nI w)) := by
  intro i hi
  rw [(newWS_W hf hM c (nI w)).2.2] at hi
  rw [newW_10]
  by_cases e : i = nW h
  · rw [e, upd_eq]
    exact ⟨w, hw, rfl⟩
  · rw [upd_ne e]
    exact H i (by omega)
theorem ow_newW {h : Rg} (hf : Wf h) (hM : nW h < 24) {c c' : Nat} (hc : c < 4) (hc' : c' < 4) (hne : ¬ c' = c) (w : Int32) (a : Nat) : ow (newWS h c w) c' a ≤ ow h c' a := by
  unfold ow
  rw [(newWS_W hf hM c w).2.2, newW_10, newW_8, newW_4]
  have hn : ¬ upd (h 8) (nW h) (nI c) (nW h) = nI c' := by
    rw [upd_eq]
    exact fun z => hne ((nI_eq (by omega) (by omega)).mp z).symm
  have e1 : wBy (upd (h 8) (nW h) (nI c)) (nI c') (nW h + 1) = wBy (h 8) (nI c') (nW h) := by
    rw [wBy, if_neg hn]
    exact wBy_ext _ (fun i hi => upd_ne (by omega))
  rw [e1]
  have hb : ¬ bit (wBy (h 8) (nI c') (nW h) &&& (upd (h 4) c (h 4 c ||| (nI 1 <<< (h 0 2 &&& 31))) a ^^^ -1)) (nW h) := by
    rw [bit_gb _ (by omega), and_gb, wBy_gb _ _ _ (by omega)]
    simp
  rw [zSum, if_neg hb]
  refine zSum_mono _ (by omega) (fun i hi => upd_ne (by omega)) (fun i hi => ?_)
  rw [and_gb, and_gb, Bool.and_eq_true, Bool.and_eq_true]
  exact fun q => ⟨q.1, nbits (by omega) (Gr_up4 (h 4) c _ a i) q.2⟩
theorem GD_acc {h : Rg} {m : Nat → Int32} (H : GD h m) {c w : Nat} (hc : c < nC h) (hw : w ≤ 9) (hM : nW h < 24) : GD (accS (newWS h c (nI w)) c (nC h)).1 (mAc (mNw m c (nI w)) c (mC m)).1 ∧ (accS (newWS h c (nI w)) c (nC h)).2 = (mAc (mNw m c (nI w)) c (mC m)).2 := by
  obtain ⟨R, J, V, hW, hN, hB⟩ := H
  have h4 := R.1.2.2.1
  obtain ⟨f1, eC, eW⟩ := newWS_W R.1 hM c (nI w)
  have R1 := RL_newW R (show c < 4 by omega) (nI w) hM f1 eC eW
  have J1 := JV_newW J c (nI w)
  have V1 := KV_newW R.1 hM V c (nI w)
  have W1 := WV_newW R.1 hM hW c hw
  have N1 : NV (newWS h c (nI w)) := by unfold NV; rw [newW_1]; exact hN
  have B1 : BP (fun c' _ => ¬ c' = c) (newWS h c (nI w)) := BP.same (hB.mono (P' := fun c' _ => ¬ c' = c) (fun _ _ _ _ _ _ => trivial)) eC (newW_7 h c (nI w)) (fun c' a hc' _ _ (q : ¬ c' = c) => ow_newW R.1 hM (by omega) (by omega) q (nI w) a)
  have hcN : c < nC (newWS h c (nI w)) := by rw [eC]; exact hc
  obtain ⟨R2, J2, V2, -, e2⟩ := RL_acc R1 J1 V1 hcN (nC (newWS h c (nI w))) (Nat.le_refl _)
  obtain ⟨g2, B2⟩ := BP_acc f1 W1 hcN B1 (nC (newWS h c (nI w))) (Nat.le_refl _)
  rw [RL_C R]
  rw [eC] at R2 J2 V2 e2 g2 B2
  refine ⟨⟨R2, J2, V2, WV_Gr W1 g2, NV_Gr N1 g2, B2.mono (fun c' a _ ha _ _ => Or.inr ?_)⟩, e2⟩
  rw [nC_congr g2.1, eC] at ha
  exact ha
/-! sums of budgets -/
theorem bSum_ext {f g : Nat → Int32} {a : Nat} : ∀ n, (∀ c, c < n → ¬ c = a → f (a * 4 + c) = g (a * 4 + c)) → bSum f a n = bSum g a n
  | 0, _ => rfl
  | n + 1, h => by
    rw [bSum, bSum, bSum_ext n (fun c hc => h c (by omega))]
    by_cases e : n = a
    · rw [if_pos e, if_pos e]
    · rw [if_neg e, if_neg e, h n (by omega) e]
theorem bSum_le {g : Nat → Int32} {a c : Nat} (hca : ¬ c = a) : ∀ n, c < n → (g (a * 4 + c)).toNatClampNeg ≤ bSum g a n
  | 0, h => absurd h (Nat.not_lt_zero _)
  | n + 1, h => by
    rw [bSum]
    by_cases e : c = n
    · rw [← e, if_neg hca]
      omega
    · have := bSum_le (g := g) hca n (by omega)
      split
      · exact this
      · omega
theorem bSum_up {g : Nat → Int32} {a c : Nat} (x : Int32) (hca : ¬ c = a) : ∀ n, c < n → bSum (upd g (a * 4 + c) x) a n + (g (a * 4 + c)).toNatClampNeg = bSum g a n + x.toNatClampNeg
  | 0, h => absurd h (Nat.not_lt_zero _)
  | n + 1, h => by
    rw [bSum, bSum]
    by_cases e : c = n
    · rw [← e, if_neg hca, if_neg hca, upd_eq, bSum_ext c (f := upd g (a * 4 + c) x) (g := g) (fun z hz _ => upd_ne (by omega))]
      omega
    · have := bSum_up (g := g) x hca n (by omega)
      by_cases e2 : n = a
      · rw [if_pos e2, if_pos e2]
        exact this
      · rw [if_neg e2, if_neg e2, upd_ne (show ¬ a * 4 + n = a * 4 + c by omega)]
        omega
/-- c's share of t among N copies without a, as a number -/
def shN (t N a c : Nat) : Nat := t / (N - 1) + (if (if a < c then c - 1 else c) < t % (N - 1) then 1 else 0)
def shSum (t N a : Nat) : Nat → Nat
  | 0 => 0
  | n + 1 => if n = a then shSum t N a n else shSum t N a n + shN t N a n
theorem shN_eq0 : ∀ t, t < 100 → ∀ n, n < 3 → ∀ r, r < 4 → nI t / nI (n + 1) + (if nI r < nI t - nI t / nI (n + 1) * nI (n + 1) then nI 1 else nI 0) = nI (t / (n + 1) + (if r < t % (n + 1) then 1 else 0)) := by decide +kernel
theorem shN_eq {t n a c : Nat} (ht : t < 100) (h2 : 2 ≤ n) (h4 : n ≤ 4) (hc : c < 4) : shareS n (nI t) a c = nI (shN t n a c) := by
  obtain ⟨k, rfl⟩ : ∃ k, n = k + 2 := ⟨n - 2, by omega⟩
  unfold shareS shN
  rw [show k + 2 - 1 = k + 1 by omega]
  exact shN_eq0 t ht k (by omega) _ (by split <;> omega)
theorem shN_le {t n a c : Nat} (ht : t < 100) : shN t n a c ≤ 100 := by
  unfold shN
  have := Nat.div_le_self t (n - 1)
  split <;> (split <;> omega)
theorem shSum_t0 : ∀ t, t < 100 → ∀ n, n < 3 → ∀ a, a < n + 2 → shSum t (n + 2) a (n + 2) = t := by decide +kernel
theorem shSum_t {t n a : Nat} (ht : t < 100) (h2 : 2 ≤ n) (h4 : n ≤ 4) (ha : a < n) : shSum t n a n = t := by
  obtain ⟨k, rfl⟩ : ∃ k, n = k + 2 := ⟨n - 2, by omega⟩
  exact shSum_t0 t ht k (by omega) a ha
def oSum (h : Rg) (a : Nat) : Nat → Nat
  | 0 => 0
  | n + 1 => if n = a then oSum h a n else oSum h a n + ow h n a
theorem bSum_os {h : Rg} {g : Nat → Int32} {t N a z : Nat} (ht : t < 100) (ho : ∀ c, z * ow h c a ≤ 216) : ∀ n, (∀ c, c < n → ¬ c = a → g (a * 4 + c) = nI (z * ow h c a + shN t N a c)) → bSum g a n = z * oSum h a n + shSum t N a n
  | 0, _ => rfl
  | n + 1, hg => by
    have ih := bSum_os (N := N) ht ho n (fun c hc => hg c (by omega))
    rw [bSum, oSum, shSum, ih]
    by_cases e : n = a
    · rw [if_pos e, if_pos e, if_pos e]
    · have h1 := ho n
      have h2 := shN_le (t := t) (n := N) (a := a) (c := n) ht
      rw [if_neg e, if_neg e, if_neg e, hg n (by omega) e, nI_clamp (by omega), Nat.mul_add]
      omega
/-! split, evened, moved -/
theorem splS_at {h : Rg} {a : Nat} : ∀ n, n ≤ 4 → ∀ c, c < n → ¬ c = a → splS h a n 7 (a * 4 + c) = shareS (nC h) (h 1 a) a c
  | 0, _, c, hc, _ => absurd hc (Nat.not_lt_zero _)
  | n + 1, hn, c, hc, hca => by
    rw [splS]
    by_cases e : n = a
    · rw [if_pos e]
      exact splS_at n (by omega) c (by omega) hca
    · rw [if_neg e, up2_same]
      by_cases e2 : c = n
      · rw [e2, upd_eq]
      · rw [upd_ne (by omega)]
        exact splS_at n (by omega) c (by omega) hca
theorem splS_ne {h : Rg} {a a' c : Nat} (hc : c < 4) (ha : ¬ a' = a) : ∀ n, n ≤ 4 → splS h a n 7 (a' * 4 + c) = h 7 (a' * 4 + c)
  | 0, _ => rfl
  | n + 1, hn => by
    rw [splS]
    by_cases e : n = a
    · rw [if_pos e]
      exact splS_ne hc ha n (by omega)
    · rw [if_neg e, up2_same, upd_ne (by omega)]
      exact splS_ne hc ha n (by omega)
theorem ow_cg {h h' : Rg} (eW : nW h' = nW h) (e4 : h' 4 = h 4) (e8 : h' 8 = h 8) (e10 : h' 10 = h 10) (c a : Nat) : ow h' c a = ow h c a := by
  unfold ow
  rw [eW, e4, e8, e10]
/-- split by a number: budgets for a are in range, the others as they were -/
theorem BP_spl {P : Nat → Nat → Prop} {h : Rg} (hf : Wf h) {a t : Nat} (ha : a < nC h) (e : h 1 a = nI t) (ht : t ≤ 99) (H : ∀ a', a' < nC h → ¬ a' = a → (∀ c, c < nC h → ¬ c = a' → ∃ b, b ≤ 99 ∧ h 7 (a' * 4 + c) = nI b ∧ (P c a' → ow h c a' ≤ b)) ∧ bSum (h 7) a' (nC h) ≤ 99) : BP (fun c a' => ¬ a' = a ∧ P c a') (splS h a (nC h)) := by
  have h4 := hf.2.2.1
  have h2 := hf.2.1
  have e0 : splS h a (nC h) 0 = h 0 := splS_k h a (by decide) _
  have eo : ∀ c a', ow (splS h a (nC h)) c a' = ow h c a' := fun c a' => ow_cg (nW_congr e0) (splS_k h a (by decide) _) (splS_k h a (by decide) _) (splS_k h a (by decide) _) c a'
  intro a' ha'
  rw [nC_congr e0] at ha' ⊢
  by_cases q : a' = a
  · subst q
    have hg : ∀ c, c < nC h → ¬ c = a' → splS h a' (nC h) 7 (a' * 4 + c) = nI (0 * ow h c a' + shN t (nC h) a' c) := fun c hc hca => by
      rw [splS_at (nC h) h4 c hc hca, e, shN_eq (by omega) h2 h4 (by omega), Nat.zero_mul, Nat.zero_add]
    have hs := bSum_os (t := t) (N := nC h) (z := 0) (h := h) (g := splS h a' (nC h) 7) (by omega) (fun c => by rw [Nat.zero_mul]; omega) (nC h) hg
    rw [shSum_t (by omega) h2 h4 ha', Nat.zero_mul, Nat.zero_add] at hs
    refine ⟨fun c hc hca => ⟨shN t (nC h) a' c, ?_, ?_, fun z => absurd rfl z.1⟩, by omega⟩
    · have := bSum_le (g := splS h a' (nC h) 7) hca (nC h) hc
      have hk := shN_le (t := t) (n := nC h) (a := a') (c := c) (by omega)
      rw [hg c hc hca, Nat.zero_mul, Nat.zero_add, nI_clamp (by omega)] at this
      omega
    · rw [hg c hc hca, Nat.zero_mul, Nat.zero_add]
  · obtain ⟨k1, k2⟩ := H a' ha' q
    refine ⟨fun c hc hca => ?_, ?_⟩
    · obtain ⟨b, hb, eb, hp⟩ := k1 c hc hca
      exact ⟨b, hb, by rw [splS_ne (by omega) q _ h4]; exact eb, fun z => by rw [eo]; exact hp z.2⟩
    · rw [bSum_ext (nC h) (g := h 7) (fun c hc _ => splS_ne (by omega) q _ h4)]
      exact k2
theorem GD_bind {h : Rg} {m : Nat → Int32} (H : GD h m) {a x : Nat} (ha : a < nC h) (hx : x ≤ 99) (y z : Int32) : GD (bindS h a (nI x) y z).1 (mBi m a (nI x) y z).1 ∧ (bindS h a (nI x) y z).2 = (mBi m a (nI x) y z).2 := by
  obtain ⟨R, J, V, hW, hN, hB⟩ := H
  have h4 := R.1.2.2.1
  have h2 := R.1.2.1
  have R1 := RL_setb R (show a < 4 by omega) (nI x) y z
  have e0 : setbS h a (nI x) y z 0 = h 0 := rfl
  have e1 : setbS h a (nI x) y z 1 = upd (h 1) a (nI x) := rfl
  have N1 : NV (setbS h a (nI x) y z) := fun b hb => by
    rw [e1]
    by_cases e : b = a
    · rw [e, upd_eq]; exact ⟨x, hx, rfl⟩
    · rw [upd_ne e]; exact hN b hb
  have main : ∀ (u : Rg) (n : Nat → Int32), Rlm u n → u 0 = h 0 → u 1 = setbS h a (nI x) y z 1 → u 4 = h 4 → u 5 = h 5 → u 8 = h 8 → u 10 = h 10 → BP (fun c' a' => ¬ a' = a) u → GD (bndS u a (nC h)).1 (mBn n a (nC h)).1 ∧ (bndS u a (nC h)).2 = (mBn n a (nC h)).2 := by
    intro u n Ru u0 u1 u4 u5 u8 u10 Bu
    have eC := nC_congr u0
    have eW := nW_congr u0
    have Ju : JV u := by unfold JV; rw [u4, u5]; exact J
    have Vu : KV u := by unfold KV; rw [u4, eW]; exact V
    have Wu : WV u := by unfold WV; rw [u10, eW]; exact hW
    have Nu : NV u := by unfold NV; rw [u1]; exact N1
    have hau : a < nC u := by rw [eC]; exact ha
    obtain ⟨R2, J2, V2, -, e2⟩ := RL_bnd Ru Ju Vu hau (nC u) (Nat.le_refl _)
    obtain ⟨g2, B2⟩ := BP_bnd Ru.1 Wu hau Bu (nC u) (Nat.le_refl _)
    rw [eC] at R2 J2 V2 e2 g2 B2
    refine ⟨⟨R2, J2, V2, WV_Gr Wu g2, NV_Gr Nu g2, B2.mono (fun c' a' hc' _ _ _ => Or.inr ?_)⟩, e2⟩
    rw [nC_congr g2.1, eC] at hc'
    exact hc'
  unfold bindS mBi
  rw [RL_C R, (RL_b R (show a < 4 by omega)).1]
  by_cases q : h 1 a = nI x
  · rw [if_pos q, if_pos q]
    exact main _ _ R1 rfl rfl rfl rfl rfl rfl (BP.same (hB.mono (P' := fun _ a' => ¬ a' = a) (fun _ _ _ _ _ _ => trivial)) rfl rfl (fun c b _ _ _ _ => Nat.le_of_eq (ow_cg rfl rfl rfl rfl c b)))
  · rw [if_neg q, if_neg q]
    have es : setbS h a (nI x) y z 1 a = nI x := by rw [e1, upd_eq]
    obtain ⟨R2, -⟩ := RL_spl R1 (show a < nC (setbS h a (nI x) y z) from ha) es (by omega) (nC h) (Nat.le_refl _)
    have k := fun {j : Nat} (hj : ¬ j = 7) => splS_k (setbS h a (nI x) y z) a hj (nC h)
    refine main _ _ R2 (k (by decide)) (k (by decide)) (k (by decide)) (k (by decide)) (k (by decide)) (k (by decide)) ?_
    have B3 := BP_spl (P := fun _ _ => True) (h := setbS h a (nI x) y z) R1.1 ha es hx (fun a' ha' _ => hB a' ha')
    exact B3.mono (fun _ _ _ _ _ z => ⟨z, trivial⟩)
theorem eveS_at {h : Rg} {a : Nat} {t : Int32} : ∀ n, n ≤ 4 → ∀ c, c < n → ¬ c = a → eveS h a t n 7 (a * 4 + c) = owedS h c a + shareS (nC h) t a c
  | 0, _, c, hc, _ => absurd hc (Nat.not_lt_zero _)
  | n + 1, hn, c, hc, hca => by
    rw [eveS]
    by_cases e : n = a
    · rw [if_pos e]
      exact eveS_at n (by omega) c (by omega) hca
    · rw [if_neg e, up2_same]
      by_cases e2 : c = n
      · rw [e2, upd_eq]
        congr 1
        unfold owedS
        rw [nW_congr (eveS_k h a t (by decide) n), eveS_k h a t (by decide) n, eveS_k h a t (by decide) n, eveS_k h a t (by decide) n]
      · rw [upd_ne (by omega)]
        exact eveS_at n (by omega) c (by omega) hca
theorem eveS_ne {h : Rg} {a a' c : Nat} {t : Int32} (hc : c < 4) (ha : ¬ a' = a) : ∀ n, n ≤ 4 → eveS h a t n 7 (a' * 4 + c) = h 7 (a' * 4 + c)
  | 0, _ => rfl
  | n + 1, hn => by
    rw [eveS]
    by_cases e : n = a
    · rw [if_pos e]
      exact eveS_ne hc ha n (by omega)
    · rw [if_neg e, up2_same, upd_ne (by omega)]
      exact eveS_ne hc ha n (by omega)
/-- all that is left for a, as a number -/
theorem tot_n {h : Rg} (hf : Wf h) (hW : WV h) (hB : BV h) {a : Nat} (ha : a < nC h) : ∀ n, n ≤ nC h → ∃ t, totS h a n = nI t ∧ t + oSum h a n = bSum (h 7) a n
  | 0, _ => ⟨0, rfl, rfl⟩
  | n + 1, hn => by
    obtain ⟨t, e, hs⟩ := tot_n hf hW hB ha n (by omega)
    rw [totS, oSum, bSum]
    by_cases q : n = a
    · rw [if_pos q, if_pos q, if_pos q]
      exact ⟨t, e, hs⟩
    · obtain ⟨b, hb, eb, ho⟩ := (hB a ha).1 n (by omega) q
      have ho := ho trivial
      rw [if_neg q, if_neg q, if_neg q, e, left_b hf hW eb, pk_sub ho, nI_add, eb, nI_clamp (by omega)]
      exact ⟨_, rfl, by omega⟩
theorem GD_eve {h : Rg} {m : Nat → Int32} (H : GD h m) {a : Nat} (ha : a < nC h) : totS h a (nC h) = mTo m a (mC m) ∧ GD (eveS h a (totS h a (nC h)) (nC h)) (mEv m a (mTo m a (mC m)) (mC m)) := by
  obtain ⟨R, J, V, hW, hN, hB⟩ := H
  have h4 := R.1.2.2.1
  have h2 := R.1.2.1
  have eT : mTo m a (mC m) = totS h a (nC h) := by rw [RL_C R]; exact RL_tot R ha (nC h) (Nat.le_refl _)
  refine ⟨eT.symm, ?_⟩
  obtain ⟨t, et, hs⟩ := tot_n R.1 hW hB ha (nC h) (Nat.le_refl _)
  have hb := (hB a ha).2
  rw [eT, et, RL_C R]
  obtain ⟨R1, z1⟩ := RL_eve R ha (show t < 100 by omega) (nC h) (Nat.le_refl _)
  have k := fun {j : Nat} (hj : ¬ j = 7) => eveS_k h a (nI t) hj (nC h)
  have eC := nC_congr z1
  have eW := nW_congr z1
  refine ⟨R1, ?_, ?_, ?_, ?_, ?_⟩
  · unfold JV; rw [k (by decide), k (by decide)]; exact J
  · unfold KV; rw [k (by decide), eW]; exact V
  · unfold WV; rw [k (by decide), eW]; exact hW
  · unfold NV; rw [k (by decide)]; exact hN
  · have eo : ∀ c a', ow (eveS h a (nI t) (nC h)) c a' = ow h c a' := fun c a' => ow_cg eW (k (by decide)) (k (by decide)) (k (by decide)) c a'
    intro a' ha'
    rw [eC] at ha' ⊢
    by_cases q : a' = a
    · subst q
      have hg : ∀ c, c < nC h → ¬ c = a' → eveS h a' (nI t) (nC h) 7 (a' * 4 + c) = nI (1 * ow h c a' + shN t (nC h) a' c) := fun c hc hca => by
        rw [eveS_at (nC h) h4 c hc hca, shN_eq (by omega) h2 h4 (by omega), (ow_eq R.1 hW c a').1, nI_add, Nat.one_mul]
      have hs2 := bSum_os (t := t) (N := nC h) (z := 1) (h := h) (g := eveS h a' (nI t) (nC h) 7) (by omega) (fun c => by rw [Nat.one_mul]; exact (ow_eq R.1 hW c a').2) (nC h) hg
      rw [shSum_t (by omega) h2 h4 ha', Nat.one_mul] at hs2
      refine ⟨fun c hc hca => ⟨1 * ow h c a' + shN t (nC h) a' c, ?_, hg c hc hca, fun _ => ?_⟩, by omega⟩
      · have := bSum_le (g := eveS h a' (nI t) (nC h) 7) hca (nC h) hc
        have hk := shN_le (t := t) (n := nC h) (a := a') (c := c) (by omega)
        have ho := (ow_eq R.1 hW c a').2
        rw [hg c hc hca, nI_clamp (by omega)] at this
        omega
      · rw [eo]; omega
    · obtain ⟨k1, k2⟩ := hB a' ha'
      refine ⟨fun c hc hca => ?_, ?_⟩
      · obtain ⟨b, hb, eb, hp⟩ := k1 c hc hca
        exact ⟨b, hb, by rw [eveS_ne (by omega) q _ h4]; exact eb, fun z => by rw [eo]; exact hp z⟩
      · rw [bSum_ext (nC h) (g := h 7) (fun c hc _ => eveS_ne (by omega) q _ h4)]
        exact k2
theorem GD_move {h : Rg} {m : Nat → Int32} (H : GD h m) {a c e k : Nat} (ha : a < nC h) (hc : c < nC h) (he : e < nC h) (hac : ¬ a = c) (hae : ¬ a = e) (hce : ¬ c = e) (hk : k ≤ 99) (hl : nI k ≤ leftS h c a) : GD (moveS h a c e (nI k)) (mMv m a c e (nI k)) ∧ moveS h a c e (nI k) 7 (a * 4 + c) = mMv m a c e (nI k) (111 + 4 * c + a) := by
  obtain ⟨R, J, V, hW, hN, hB⟩ := H
  have h4 := R.1.2.2.1
  have R1 := RL_move R ha hc he hac hae (nI k)
  obtain ⟨b, hb, eb, ho⟩ := (hB a ha).1 c hc (fun z => hac z.symm)
  obtain ⟨b2, hb2, eb2, ho2⟩ := (hB a ha).1 e he (fun z => hae z.symm)
  have ho := ho trivial
  have ho2 := ho2 trivial
  rw [left_b R.1 hW eb, pk_sub ho, nI_leI (by omega) (by omega)] at hl
  have e7 : moveS h a c e (nI k) 7 = upd (upd (h 7) (a * 4 + c) (nI (b - k))) (a * 4 + e) (nI (b2 + k)) := by
    show upd (upd (h 7) (a * 4 + c) (h 7 (a * 4 + c) - nI k)) (a * 4 + e) (upd (h 7) (a * 4 + c) (h 7 (a * 4 + c) - nI k) (a * 4 + e) + nI k) = _
    rw [upd_ne (show ¬ a * 4 + e = a * 4 + c by omega), eb, eb2, pk_sub (by omega), nI_add]
  have eC : nC (moveS h a c e (nI k)) = nC h := rfl
  have s1 := bSum_up (g := h 7) (a := a) (nI (b - k)) (fun z => hac z.symm) (nC h) hc
  have s2 := bSum_up (g := upd (h 7) (a * 4 + c) (nI (b - k))) (a := a) (nI (b2 + k)) (fun z => hae z.symm) (nC h) he
  rw [eb, nI_clamp (by omega), nI_clamp (by omega)] at s1
  rw [upd_ne (show ¬ a * 4 + e = a * 4 + c by omega), eb2, nI_clamp (by omega), nI_clamp (by omega)] at s2
  have hs := (hB a ha).2
  refine ⟨⟨R1, J, V, hW, hN, ?_⟩, ?_⟩
  · have eo : ∀ c' a', ow (moveS h a c e (nI k)) c' a' = ow h c' a' := fun c' a' => ow_cg rfl rfl rfl rfl c' a'
    intro a' ha'
    rw [eC] at ha' ⊢
    rw [e7]
    obtain ⟨k1, k2⟩ := hB a' ha'
    by_cases q : a' = a
    · subst q
      refine ⟨fun c' hc' hca => ?_, by omega⟩
      by_cases q1 : c' = e
      · subst q1
        have := bSum_le (g := upd (upd (h 7) (a' * 4 + c) (nI (b - k))) (a' * 4 + c') (nI (b2 + k))) hca (nC h) hc'
        rw [upd_eq, nI_clamp (by omega)] at this
        exact ⟨b2 + k, by omega, upd_eq, fun _ => by rw [eo]; omega⟩
      · by_cases q2 : c' = c
        · subst q2
          exact ⟨b - k, by omega, by rw [upd_ne (by omega), upd_eq], fun _ => by rw [eo]; omega⟩
        · obtain ⟨b3, hb3, eb3, hp3⟩ := k1 c' hc' hca
          exact ⟨b3, hb3, by rw [upd_ne (by omega), upd_ne (by omega)]; exact eb3, fun z => by rw [eo]; exact hp3 z⟩
    · refine ⟨fun c' hc' hca => ?_, ?_⟩
      · obtain ⟨b3, hb3, eb3, hp3⟩ := k1 c' hc' hca
        exact ⟨b3, hb3, by rw [upd_ne (by omega), upd_ne (by omega)]; exact eb3, fun z => by rw [eo]; exact hp3 z⟩
      · rw [bSum_ext (nC h) (g := h 7) (fun c' hc' _ => by rw [upd_ne (by omega), upd_ne (by omega)])]
        exact k2
  · exact (RL_g R1 ha hc hac).symm
