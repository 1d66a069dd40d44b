/-! ===== sums as numbers; what stays true of budgets ===== -/
theorem lt0_sub {a b : Nat} (ha : a < 2 ^ 30) (hb : b < 2 ^ 30) : nI a - nI b < 0 ↔ a < b := by
  rw [Int32.lt_iff_toInt_lt, pk_sub_toInt ha hb, show (0 : Int32).toInt = 0 from rfl]
  omega
/-- the weights of the first n writes that are in s, as a number -/
def zSum (g : Nat → Int32) (s : Int32) : Nat → Nat
  | 0 => 0
  | n + 1 => if bit s n then zSum g s n + (g n).toNatClampNeg else zSum g s n
theorem wSum_z {g : Nat → Int32} {s : Int32} : ∀ n, n ≤ 24 → (∀ i, i < n → ∃ w, w ≤ 9 ∧ g i = nI w) → wSum g s n = nI (zSum g s n) ∧ zSum g s n ≤ 9 * n
  | 0, _, _ => ⟨rfl, Nat.le_refl _⟩
  | n + 1, hn, hg => by
    obtain ⟨e, hle⟩ := wSum_z (g := g) (s := s) n (by omega) (fun i hi => hg i (by omega))
    obtain ⟨w, hw, ew⟩ := hg n (by omega)
    have hz : (g n).toNatClampNeg = w := by rw [ew]; exact nI_clamp (by omega)
    rw [wSum, zSum, hz]
    by_cases hb : bit s n
    · rw [if_pos hb, if_pos hb, e, ew, nI_add]
      exact ⟨rfl, by omega⟩
    · rw [if_neg hb, if_neg hb]
      exact ⟨e, by omega⟩
theorem zSum_mono {f g : Nat → Int32} {s t : Int32} : ∀ n, n ≤ 24 → (∀ i, i < n → f i = g i) → (∀ i, i < n → gb s i = true → gb t i = true) → zSum f s n ≤ zSum g t n
  | 0, _, _, _ => Nat.le_refl _
  | n + 1, hn, he, hb => by
    have ih := zSum_mono n (by omega) (fun i hi => he i (by omega)) (fun i hi => hb i (by omega))
    rw [zSum, zSum, he n (by omega)]
    by_cases h1 : bit s n
    · have h2 : bit t n := (bit_gb t (by omega)).mpr (hb n (by omega) ((bit_gb s (by omega)).mp h1))
      rw [if_pos h1, if_pos h2]
      omega
    · rw [if_neg h1]
      split
      · omega
      · exact ih
theorem zSum_0 {g : Nat → Int32} {s : Int32} : ∀ n, n ≤ 24 → (∀ i, i < n → gb s i = false) → zSum g s n = 0
  | 0, _, _ => rfl
  | n + 1, hn, hb => by
    have ih := zSum_0 (g := g) n (by omega) (fun i hi => hb i (by omega))
    have h1 : ¬ bit s n := fun z => by
      have := (bit_gb s (by omega)).mp z
      rw [hb n (by omega)] at this
      cases this
    rw [zSum, if_neg h1]
    exact ih
/-- what c owes a, as a number -/
def ow (h : Rg) (c a : Nat) : Nat := zSum (h 10) (wBy (h 8) (nI c) (nW h) &&& (h 4 a ^^^ -1)) (nW h)
/-- weights are small -/
def WV (h : Rg) : Prop := ∀ i, i < nW h → ∃ w, w ≤ 9 ∧ h 10 i = nI w
def NV (h : Rg) : Prop := ∀ a, a < 4 → ∃ t, t ≤ 99 ∧ h 1 a = nI t
theorem ow_eq {h : Rg} (hf : Wf h) (hW : WV h) (c a : Nat) : owedS h c a = nI (ow h c a) ∧ ow h c a ≤ 216 := by
  have h24 := hf.2.2.2.2
  obtain ⟨e, hle⟩ := wSum_z (g := h 10) (s := wBy (h 8) (nI c) (nW h) &&& (h 4 a ^^^ -1)) (nW h) h24 hW
  exact ⟨e, by show zSum _ _ _ ≤ 216; omega⟩
/-- the budgets for a, of the copies below n, together -/
def bSum (g : Nat → Int32) (a : Nat) : Nat → Nat
  | 0 => 0
  | n + 1 => if n = a then bSum g a n else bSum g a n + (g (a * 4 + n)).toNatClampNeg
/-- budgets are in range; of the pairs in P none is overdrawn -/
def BP (P : Nat → Nat → Prop) (h : Rg) : Prop := ∀ a, a < nC h → (∀ c, c < nC h → ¬ c = a → ∃ b, b ≤ 99 ∧ h 7 (a * 4 + c) = nI b ∧ (P c a → ow h c a ≤ b)) ∧ bSum (h 7) a (nC h) ≤ 99
def BV (h : Rg) : Prop := BP (fun _ _ => True) h
theorem BP.mono {P P' : Nat → Nat → Prop} {h : Rg} (H : BP P h) (hp : ∀ c a, c < nC h → a < nC h → ¬ c = a → P' c a → P c a) : BP P' h := fun a ha => ⟨fun c hc hca => by
  obtain ⟨b, h1, h2, h3⟩ := (H a ha).1 c hc hca
  exact ⟨b, h1, h2, fun q => h3 (hp c a hc ha hca q)⟩, (H a ha).2⟩
/-- another state with the same budgets, in which nobody of P owes more -/
theorem BP.same {P : Nat → Nat → Prop} {h h' : Rg} (H : BP P h) (eC : nC h' = nC h) (e7 : h' 7 = h 7) (ho : ∀ c a, c < nC h → a < nC h → ¬ c = a → P c a → ow h' c a ≤ ow h c a) : BP P h' := by
  intro a ha
  rw [eC] at ha ⊢
  rw [e7]
  refine ⟨fun c hc hca => ?_, (H a ha).2⟩
  obtain ⟨b, h1, h2, h3⟩ := (H a ha).1 c hc hca
  exact ⟨b, h1, h2, fun q => Nat.le_trans (ho c a hc ha hca q) (h3 q)⟩
/-- what is known has grown, the rest that counts is as it was -/
def Gr (h h' : Rg) : Prop := h' 0 = h 0 ∧ h' 1 = h 1 ∧ h' 7 = h 7 ∧ h' 8 = h 8 ∧ h' 10 = h 10 ∧ ∀ a i, gb (h 4 a) i = true → gb (h' 4 a) i = true
theorem Gr.rf (h : Rg) : Gr h h := ⟨rfl, rfl, rfl, rfl, rfl, fun _ _ q => q⟩
theorem Gr.tr {a b c : Rg} (h1 : Gr a b) (h2 : Gr b c) : Gr a c := ⟨h2.1.trans h1.1, h2.2.1.trans h1.2.1, h2.2.2.1.trans h1.2.2.1, h2.2.2.2.1.trans h1.2.2.2.1, h2.2.2.2.2.1.trans h1.2.2.2.2.1, fun x i q => h2.2.2.2.2.2 x i (h1.2.2.2.2.2 x i q)⟩
theorem nbits {x y : Int32} {i : Nat} (hi : i < 32) (h : gb x i = true → gb y i = true) : gb (y ^^^ -1) i = true → gb (x ^^^ -1) i = true := by
  rw [not_gb _ hi, not_gb _ hi]
  intro q
  cases hx : gb x i with
  | false => rfl
  | true => rw [h hx] at q; exact q
theorem ow_Gr {h h' : Rg} (hw : nW h ≤ 24) (g : Gr h h') (c a : Nat) : ow h' c a ≤ ow h c a := by
  unfold ow
  rw [nW_congr g.1, g.2.2.2.1, g.2.2.2.2.1]
  refine zSum_mono _ hw (fun _ _ => rfl) (fun i hi => ?_)
  rw [and_gb, and_gb, Bool.and_eq_true, Bool.and_eq_true]
  exact fun q => ⟨q.1, nbits (by omega) (g.2.2.2.2.2 a i) q.2⟩
theorem BP_Gr {P : Nat → Nat → Prop} {h h' : Rg} (hw : nW h ≤ 24) (H : BP P h) (g : Gr h h') : BP P h' := H.same (nC_congr g.1) g.2.2.1 (fun c a _ _ _ _ => ow_Gr hw g c a)
theorem WV_Gr {h h' : Rg} (H : WV h) (g : Gr h h') : WV h' := by
  unfold WV
  rw [nW_congr g.1, g.2.2.2.2.1]
  exact H
theorem NV_Gr {h h' : Rg} (H : NV h) (g : Gr h h') : NV h' := by
  unfold NV
  rw [g.2.1]
  exact H
theorem Gr_up4 (f : Nat → Int32) (a : Nat) (x : Int32) : ∀ b i, gb (f b) i = true → gb (upd f a (f a ||| x) b) i = true := by
  intro b i q
  by_cases e : b = a
  · rw [e, upd_eq, or_gb, ← e, q]; rfl
  · rw [upd_ne e]; exact q
theorem Gr_push (h : Rg) (c a : Nat) : Gr h (pushS h c a) := ⟨rfl, rfl, rfl, rfl, rfl, Gr_up4 (h 4) a _⟩
theorem pull_o {h : Rg} (J : JV h) {a c k : Nat} (hc : c < 4) (h4 : ¬ k = 4) (h5 : ¬ k = 5) (h6 : ¬ k = 6) : pullS h a c k = h k := by
  unfold pullS
  rw [heaS_o _ _ _ h6, pul0_eq J hc]
  unfold q0S up2
  rw [if_neg h5, if_neg h6, if_neg h5, if_neg h4]
theorem Gr_pull {h : Rg} (J : JV h) {a c : Nat} (hc : c < 4) : Gr h (pullS h a c) := ⟨pull_0 J hc, pull_o J hc (by decide) (by decide) (by decide), pull_o J hc (by decide) (by decide) (by decide), pull_o J hc (by decide) (by decide) (by decide), pull_o J hc (by decide) (by decide) (by decide), by rw [pull_4 J hc]; exact Gr_up4 (h 4) a _⟩
theorem Gr_red {h : Rg} (J : JV h) {a : Nat} (ha : a < 4) : ∀ n, n ≤ 4 → Gr h (redS h a n).1 ∧ JV (redS h a n).1
  | 0, _ => ⟨Gr.rf h, J⟩
  | n + 1, hn => by
    obtain ⟨g1, J1⟩ := Gr_red J ha n (by omega)
    rw [redS]
    split
    · exact ⟨g1, J1⟩
    · split
      · exact ⟨g1, J1⟩
      · exact ⟨g1.tr (Gr_pull J1 (by omega)), JV_pull J1 ha (by omega)⟩
theorem Gr_read {h : Rg} (J : JV h) (h4 : nC h ≤ 4) {a : Nat} (ha : a < 4) : Gr h (readS h a).1 := by
  obtain ⟨g1, J1⟩ := Gr_red J ha (nC h) h4
  unfold readS
  split
  · exact g1
  · exact (g1.tr (Gr_pull J1 ha)).tr (Gr_pull (JV_pull J1 (by decide) ha) (by decide))
/-- behind a push nothing is owed -/
theorem ow_push {h : Rg} (hw : nW h ≤ 24) (c a : Nat) : ow (pushS h c a) c a = 0 := by
  unfold ow
  rw [nW_congr (push_0 h c a), push_4, upd_eq]
  refine zSum_0 _ hw (fun i hi => ?_)
  show gb (wBy (h 8) (nI c) (nW h) &&& ((h 4 a ||| wBy (h 8) (nI c) (nW h)) ^^^ -1)) i = false
  rw [and_gb, not_gb _ (by omega), or_gb]
  cases gb (wBy (h 8) (nI c) (nW h)) i <;> cases gb (h 4 a) i <;> rfl
/-- all that stays true of a ledger -/
def IV (h : Rg) : Prop := JV h ∧ KV h ∧ WV h ∧ NV h ∧ BV h
/-- a ledger and the model's array for it -/
def GD (h : Rg) (m : Nat → Int32) : Prop := Rlm h m ∧ IV h
theorem left_b {h : Rg} (hf : Wf h) (hW : WV h) {a c b : Nat} (e : h 7 (a * 4 + c) = nI b) : leftS h c a = nI b - nI (ow h c a) := by
  unfold leftS
  rw [e, (ow_eq hf hW c a).1]
theorem left_lt {h : Rg} (hf : Wf h) (hW : WV h) {a c b : Nat} (hb : b ≤ 99) (e : h 7 (a * 4 + c) = nI b) : leftS h c a < 0 ↔ b < ow h c a := by
  have := (ow_eq hf hW c a).2
  rw [left_b hf hW e]
  exact lt0_sub (by omega) (by omega)
/-- pushes from c, below n -/
theorem BP_acc {h : Rg} (hf : Wf h) (hW : WV h) {c : Nat} (hc : c < nC h) (H : BP (fun c' a => ¬ c' = c) h) : ∀ n, n ≤ nC h → Gr h (accS h c n).1 ∧ BP (fun c' a => ¬ c' = c ∨ a < n) (accS h c n).1
  | 0, _ => ⟨Gr.rf h, H.mono (fun c' a _ _ _ (q : ¬ c' = c ∨ a < 0) => q.resolve_right (Nat.not_lt_zero _))⟩
  | n + 1, hn => by
    obtain ⟨g1, B1⟩ := BP_acc hf hW hc H n (by omega)
    have hf1 := hf.congr g1.1
    have hW1 := WV_Gr hW g1
    have hC := nC_congr g1.1
    have hw1 := hf1.2.2.2.2
    rw [accS]
    by_cases h1 : n = c
    · rw [if_pos h1]
      refine ⟨g1, B1.mono (fun c' a _ _ hca (q : ¬ c' = c ∨ a < n + 1) => ?_)⟩
      rcases q with q | q
      · exact Or.inl q
      · by_cases e : c' = c
        · exact Or.inr (show a < n by omega)
        · exact Or.inl e
    · rw [if_neg h1]
      obtain ⟨b, hb, eb, -⟩ := (B1 n (by omega)).1 c (by omega) (fun z => h1 z.symm)
      by_cases h2 : leftS (accS h c n).1 c n < 0
      · rw [if_pos h2]
        refine ⟨g1.tr (Gr_push _ c n), ?_⟩
        have B2 := BP_Gr hw1 B1 (Gr_push (accS h c n).1 c n)
        intro a ha
        obtain ⟨k1, k2⟩ := B2 a ha
        refine ⟨fun c' hc' hca => ?_, k2⟩
        obtain ⟨b', hb', eb', hp⟩ := k1 c' hc' hca
        refine ⟨b', hb', eb', fun (q : ¬ c' = c ∨ a < n + 1) => ?_⟩
        by_cases e : c' = c ∧ a = n
        · rw [e.1, e.2, ow_push hw1]
          exact Nat.zero_le _
        · exact hp (show ¬ c' = c ∨ a < n by omega)
      · rw [if_neg h2]
        refine ⟨g1, fun a ha => ⟨fun c' hc' hca => ?_, (B1 a ha).2⟩⟩
        obtain ⟨b', hb', eb', hp⟩ := (B1 a ha).1 c' hc' hca
        refine ⟨b', hb', eb', fun (q : ¬ c' = c ∨ a < n + 1) => ?_⟩
        by_cases e : c' = c ∧ a = n
        · rw [e.1, e.2] at eb' ⊢
          exact Nat.le_of_not_lt (fun z => h2 ((left_lt hf1 hW1 hb' eb').mpr z))
        · exact hp (show ¬ c' = c ∨ a < n by omega)
/-- pushes to a, below n -/
theorem BP_bnd {h : Rg} (hf : Wf h) (hW : WV h) {a : Nat} (ha : a < nC h) (H : BP (fun c' a' => ¬ a' = a) h) : ∀ n, n ≤ nC h → Gr h (bndS h a n).1 ∧ BP (fun c' a' => ¬ a' = a ∨ c' < n) (bndS h a n).1
  | 0, _ => ⟨Gr.rf h, H.mono (fun c' a' _ _ _ (q : ¬ a' = a ∨ c' < 0) => q.resolve_right (Nat.not_lt_zero _))⟩
  | n + 1, hn => by
    obtain ⟨g1, B1⟩ := BP_bnd hf hW ha H n (by omega)
    have hf1 := hf.congr g1.1
    have hW1 := WV_Gr hW g1
    have hC := nC_congr g1.1
    have hw1 := hf1.2.2.2.2
    rw [bndS]
    by_cases h1 : n = a
    · rw [if_pos h1]
      refine ⟨g1, B1.mono (fun c' a' _ _ hca (q : ¬ a' = a ∨ c' < n + 1) => ?_)⟩
      rcases q with q | q
      · exact Or.inl q
      · by_cases e : a' = a
        · exact Or.inr (show c' < n by omega)
        · exact Or.inl e
    · rw [if_neg h1]
      by_cases h2 : leftS (bndS h a n).1 n a < 0
      · rw [if_pos h2]
        refine ⟨g1.tr (Gr_push _ n a), ?_⟩
        have B2 := BP_Gr hw1 B1 (Gr_push (bndS h a n).1 n a)
        intro a' ha'
        obtain ⟨k1, k2⟩ := B2 a' ha'
        refine ⟨fun c' hc' hca => ?_, k2⟩
        obtain ⟨b', hb', eb', hp⟩ := k1 c' hc' hca
        refine ⟨b', hb', eb', fun (q : ¬ a' = a ∨ c' < n + 1) => ?_⟩
        by_cases e : c' = n ∧ a' = a
        · rw [e.1, e.2, ow_push hw1]
          exact Nat.zero_le _
        · exact hp (show ¬ a' = a ∨ c' < n by omega)
      · rw [if_neg h2]
        refine ⟨g1, fun a' ha' => ⟨fun c' hc' hca => ?_, (B1 a' ha').2⟩⟩
        obtain ⟨b', hb', eb', hp⟩ := (B1 a' ha').1 c' hc' hca
        refine ⟨b', hb', eb', fun (q : ¬ a' = a ∨ c' < n + 1) => ?_⟩
        by_cases e : c' = n ∧ a' = a
        · rw [e.1, e.2] at eb' ⊢
          exact Nat.le_of_not_lt (fun z => h2 ((left_lt hf1 hW1 hb' eb').mpr z))
        · exact hp (show ¬ a' = a ∨ c' < n by omega)
