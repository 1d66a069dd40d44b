/-! ===== the text, in both: items ===== -/
/-- the ledger that a text is told into, and the model's array -/
def RT (L : Rg) (b : Nat → Int32) : Prop := RV (fun i => i < 15 ∨ (87 ≤ i ∧ i < 111)) L b ∧ Wf L ∧ nW L = 0 ∧ NV L ∧ ∀ a, a < 4 → L 4 a = nI 0 ∧ L 5 a = nI 0
theorem RT_0 {L : Rg} {b : Nat → Int32} (R : RT L b) : b 0 = L 0 0 := RV_at R.1 (by decide) (by decide) (Or.inl (by decide))
theorem RT_set {L : Rg} {b : Nat → Int32} (R : RT L b) {c x : Nat} (hc : c < 4) (hx : x ≤ 99) (y z : Int32) : RT (setbS L c (nI x) y z) (upd (upd (upd b (2 + 3 * c) (nI x)) (2 + 3 * c + 1) y) (2 + 3 * c + 2) z) := by
  obtain ⟨r1, r2, r3, r4, r5⟩ := R
  refine ⟨?_, r2, r3, fun a ha => ?_, r5⟩
  · unfold setbS
    exact RV_up1 (RV_up1 (RV_up1 r1 (by omega) (sl_b c hc).1 _) (by omega) (sl_b c hc).2.1 _) (by omega) (sl_b c hc).2.2 _
  · show ∃ t, t ≤ 99 ∧ upd (L 1) c (nI x) a = nI t
    by_cases e : a = c
    · rw [e, upd_eq]; exact ⟨x, hx, rfl⟩
    · rw [upd_ne e]; exact r4 a ha
theorem RT_cop {L : Rg} {b : Nat → Int32} (R : RT L b) {c : Nat} (h2 : 2 ≤ c) (h4 : c ≤ 4) : RT (up2 L 0 0 (nI c)) (upd b 0 (nI c)) := by
  obtain ⟨r1, r2, r3, r4, r5⟩ := R
  exact ⟨RV_up1 r1 (by decide) (by decide) _, (Wf_put r2 h2 h4).1, r3, r4, r5⟩
/-- an item's end, in both -/
def ItR (u : Rg) (g : Nat → Int32) (len : Nat) (A : Int32 × Nat × Rg) (B : Int32 × Nat × Int32 × Rg) : Prop :=
  (A.1 = nI 1 ∧ ¬ B.1 = 0 ∧ kc (nK g len (nE g len B.2.1)) = nI 59 ∧ nE g len (nE g len B.2.1) = pE g len 0 A.2.1 ∧ RT A.2.2 (B.2.2.2 2))
  ∨ (A.1 = nI 0 ∧ ∃ s, s ≤ len ∧ u 3 A.2.1 = nI s ∧ ((B.1 = 0 ∧ nS g len B.2.1 = s) ∨ (¬ B.1 = 0 ∧ ¬ kc (nK g len (nE g len B.2.1)) = nI 59 ∧ nS g len (nE g len B.2.1) = s)))
theorem nrb1 {g : Nat → Int32} {len p : Nat} {v lo hi : Int32} (h : nR g len p v lo hi) : ¬ nRb g len p v lo hi = 0 := by
  unfold nRb
  rw [if_pos h]
  decide
theorem nrb0 {g : Nat → Int32} {len p : Nat} {v lo hi : Int32} (h : ¬ nR g len p v lo hi) : nRb g len p v lo hi = 0 := by
  unfold nRb
  rw [if_neg h]
  decide
section ITEMS
variable {u L h : Rg} {len N n : Nat} {v b : Int32}
/-- a token that can't stand there: its place, in both -/
theorem it_f1 (H : TKF u (h 7) len N) {A : Int32 × Nat × Rg} {B : Int32 × Nat × Int32 × Rg} {j : Nat} (hj : j ≤ N) (a1 : A.1 = nI 0) (a2 : A.2.1 = j) (b1 : B.1 = 0) (b2 : B.2.1 = pE (h 7) len 0 j) : ItR u (h 7) len A B := by
  refine Or.inr ⟨a1, nS (h 7) len (pE (h 7) len 0 j), (nS_le (h 7) (pE_le (h 7) (Nat.zero_le len) j).2).2, ?_, Or.inl ⟨b1, by rw [b2]⟩⟩
  rw [a2]
  exact (H.2 j hj).2.1
theorem it_f2 (H : TKF u (h 7) len N) {A : Int32 × Nat × Rg} {B : Int32 × Nat × Int32 × Rg} {j : Nat} (hj : j + 1 ≤ N) (a1 : A.1 = nI 0) (a2 : A.2.1 = j + 1) (b1 : ¬ B.1 = 0) (b2 : B.2.1 = pE (h 7) len 0 j) (hk : ¬ u 2 (j + 1) = nI 4) : ItR u (h 7) len A B := by
  have e : nE (h 7) len B.2.1 = pE (h 7) len 0 (j + 1) := by rw [b2]; rfl
  refine Or.inr ⟨a1, nS (h 7) len (pE (h 7) len 0 (j + 1)), (nS_le (h 7) (pE_le (h 7) (Nat.zero_le len) (j + 1)).2).2, ?_, Or.inr ⟨b1, ?_, by rw [e]⟩⟩
  · rw [a2]
    exact (H.2 (j + 1) hj).2.1
  · rw [e, ← (H.2 (j + 1) hj).1]
    exact fun z => hk (kc_k.2.2.2.2.mp z)
theorem it_ok1 (H : TKF u (h 7) len N) {A : Int32 × Nat × Rg} {B : Int32 × Nat × Int32 × Rg} {j : Nat} (hj : j + 1 ≤ N) (a1 : A.1 = nI 1) (a2 : A.2.1 = j + 2) (b1 : ¬ B.1 = 0) (b2 : B.2.1 = pE (h 7) len 0 j) (hk : u 2 (j + 1) = nI 4) (hR : RT A.2.2 (B.2.2.2 2)) : ItR u (h 7) len A B := by
  have e : nE (h 7) len B.2.1 = pE (h 7) len 0 (j + 1) := by rw [b2]; rfl
  refine Or.inl ⟨a1, b1, ?_, ?_, hR⟩
  · rw [e, ← (H.2 (j + 1) hj).1]
    exact kc_k.2.2.2.2.mpr hk
  · rw [e, a2]
    rfl
theorem it_ok (H : TKF u (h 7) len N) (hn : n ≤ N) (R : RT L (h 2)) : ItR u (h 7) len (tiS u L n b) (riS h len (pE (h 7) len 0 n) v b) := by
  have a1 : pE (h 7) len (pE (h 7) len 0 n) 1 = pE (h 7) len 0 (n + 1) := pE_ad _ _ _ _ 1
  have a2 : pE (h 7) len (pE (h 7) len 0 n) 2 = pE (h 7) len 0 (n + 1 + 1) := pE_ad _ _ _ _ 2
  have a3 : pE (h 7) len (pE (h 7) len 0 n) 3 = pE (h 7) len 0 (n + 1 + 2) := pE_ad _ _ _ _ 3
  have a4 : pE (h 7) len (pE (h 7) len 0 n) 4 = pE (h 7) len 0 (n + 1 + 3) := pE_ad _ _ _ _ 4
  have hk := (H.2 n hn).1
  have vv : ∀ i, n + 1 + i ≤ N → u 2 (n + 1 + i) = nI 3 → vE (h 7) len (pE (h 7) len 0 n) v (i + 2) = u 4 (n + 1 + i) := by
    intro i hi h3
    have e := (H.2 (n + 1 + i) hi).2.2 h3 (vE (h 7) len (pE (h 7) len 0 n) v (i + 1))
    rw [e, vE, pE_ad, show n + (i + 1) = n + 1 + i by omega]
  by_cases c1 : ¬ b = 0 ∧ u 2 n = nI 1
  · have n1 : n < N := tok_lt H.1 hn c1.2 (by decide)
    have m1 : kc (nK (h 7) len (pE (h 7) len 0 n)) = nI 1003 ∧ ¬ b = 0 := ⟨kc_k.2.1.mpr (by rw [← hk]; exact c1.2), c1.1⟩
    by_cases p1 : pN u (n + 1) (nI 2) (nI 4)
    · have n2 : n + 1 < N := tok_lt H.1 (by omega) p1.1 (by decide)
      have r1 : nR (h 7) len (pE (h 7) len (pE (h 7) len 0 n) 1) (vE (h 7) len (pE (h 7) len 0 n) v 1) (nI 2) (nI 4) := by rw [a1]; exact (pn_nr H (by omega) _ _ _).mp p1
      have eB : riS h len (pE (h 7) len 0 n) v b = (nRb (h 7) len (pE (h 7) len (pE (h 7) len 0 n) 1) (vE (h 7) len (pE (h 7) len 0 n) v 1) (nI 2) (nI 4), pE (h 7) len (pE (h 7) len 0 n) 1, vE (h 7) len (pE (h 7) len 0 n) v 1, up2 h 2 0 (vE (h 7) len (pE (h 7) len 0 n) v 2)) := by
        unfold riS
        rw [if_pos m1, if_neg (nrb1 r1)]
      obtain ⟨j, hj2, hj4, ej⟩ := pN_in (by decide) (by decide) p1
      have ev := vv 0 (by omega) p1.1
      rw [eB]
      unfold tiS tcS
      rw [if_pos c1, if_pos p1]
      by_cases s1 : u 2 (n + 1 + 1) = nI 4
      · rw [if_pos s1]
        refine it_ok1 H (j := n + 1) (by omega) rfl rfl (nrb1 r1) a1 s1 ?_
        show RT (up2 L 0 0 (u 4 (n + 1))) (up2 h 2 0 (vE (h 7) len (pE (h 7) len 0 n) v 2) 2)
        rw [up2_same, ev, show n + 1 + 0 = n + 1 from rfl, ej]
        exact RT_cop R hj2 hj4
      · rw [if_neg s1]
        exact it_f2 H (j := n + 1) (by omega) rfl rfl (nrb1 r1) a1 s1
    · have r1 : ¬ nR (h 7) len (pE (h 7) len (pE (h 7) len 0 n) 1) (vE (h 7) len (pE (h 7) len 0 n) v 1) (nI 2) (nI 4) := by rw [a1]; exact fun z => p1 ((pn_nr H (by omega) _ _ _).mpr z)
      unfold tiS tcS riS
      rw [if_pos c1, if_neg p1, if_pos m1]
      exact it_f1 H (j := n + 1) (by omega) rfl rfl (nrb0 r1) a1
  · have m1 : ¬ (kc (nK (h 7) len (pE (h 7) len 0 n)) = nI 1003 ∧ ¬ b = 0) := fun z => c1 ⟨z.2, by rw [hk]; exact kc_k.2.1.mp z.1⟩
    by_cases c2 : u 2 n = nI 2
    · have n1 : n < N := tok_lt H.1 hn c2 (by decide)
      have m2 : kc (nK (h 7) len (pE (h 7) len 0 n)) = nI 1004 := kc_k.2.2.1.mpr (by rw [← hk]; exact c2)
      have fail : ∀ (j p : Nat) (w : Int32) (x : Rg), j ≤ N → rbS h len (pE (h 7) len 0 n) v = (nI 0, p, w, x) → p = pE (h 7) len 0 j → tbS u L (n + 1) = (nI 0, j, L) → ItR u (h 7) len (tiS u L n b) (riS h len (pE (h 7) len 0 n) v b) := by
        intro j p w x hj e1 e2 e3
        unfold tiS riS
        rw [if_neg c1, if_pos c2, if_neg m1, if_pos m2, e1, e3]
        exact it_f1 H hj rfl rfl (show (if nI 0 = 0 then nI 0 else nI 1) = 0 by decide) e2
      by_cases p1 : pN u (n + 1) (nI 0) (L 0 0 - nI 1)
      · have n2 : n + 1 < N := tok_lt H.1 (by omega) p1.1 (by decide)
        have r1 : ¬ nRb (h 7) len (pE (h 7) len (pE (h 7) len 0 n) 1) (vE (h 7) len (pE (h 7) len 0 n) v 1) (nI 0) (h 2 0 - nI 1) = 0 := nrb1 (by rw [a1, RT_0 R]; exact (pn_nr H (by omega) _ _ _).mp p1)
        by_cases p2 : pN u (n + 1 + 1) (nI 0) (nI 99)
        · have n3 : n + 1 + 1 < N := tok_lt H.1 (by omega) p2.1 (by decide)
          have r2 : ¬ nRb (h 7) len (pE (h 7) len (pE (h 7) len 0 n) 2) (vE (h 7) len (pE (h 7) len 0 n) v 2) (nI 0) (nI 99) = 0 := nrb1 (by rw [a2]; exact (pn_nr H (by omega) _ _ _).mp p2)
          by_cases p3 : pN u (n + 1 + 2) (nI 0) (nI 9)
          · have n4 : n + 1 + 2 < N := tok_lt H.1 (by omega) p3.1 (by decide)
            have r3 : ¬ nRb (h 7) len (pE (h 7) len (pE (h 7) len 0 n) 3) (vE (h 7) len (pE (h 7) len 0 n) v 3) (nI 0) (nI 9) = 0 := nrb1 (by rw [a3]; exact (pn_nr H (by omega) _ _ _).mp p3)
            by_cases p4 : pN u (n + 1 + 3) (nI 0) (nI 99)
            · have n5 : n + 1 + 3 < N := tok_lt H.1 (by omega) p4.1 (by decide)
              have r4 : ¬ nRb (h 7) len (pE (h 7) len (pE (h 7) len 0 n) 4) (vE (h 7) len (pE (h 7) len 0 n) v 4) (nI 0) (nI 99) = 0 := nrb1 (by rw [a4]; exact (pn_nr H (by omega) _ _ _).mp p4)
              have v2 := vv 0 (by omega) p1.1
              have v3 := vv 1 (by omega) p2.1
              have v4 := vv 2 (by omega) p3.1
              have v5 := vv 3 (by omega) p4.1
              have hC := R.2.1.2.2.1
              have hC2 := R.2.1.2.1
              have p1' := p1
              rw [R.2.1.1, pk_sub (by omega)] at p1'
              obtain ⟨c, -, hc, ec⟩ := pN_in (by decide) (by omega) p1'
              obtain ⟨x, -, hx, ex⟩ := pN_in (by decide) (by decide) p2
              have eB : ∃ w z, riS h len (pE (h 7) len 0 n) v b = (nI 1, pE (h 7) len (pE (h 7) len 0 n) 4, w, z) ∧ RT (setbS L (u 4 (n + 1)).toNatClampNeg (u 4 (n + 1 + 1)) (u 4 (n + 1 + 2)) (u 4 (n + 1 + 3))) (z 2) := by
                unfold riS
                rw [if_neg m1, if_pos m2]
                unfold rbS
                rw [if_neg r1, if_neg r2, if_neg r3, if_neg r4]
                refine ⟨(vE (h 7) len (pE (h 7) len 0 n) v 4), up2 (up2 (up2 h 2 (2 + 3 * (vE (h 7) len (pE (h 7) len 0 n) v 2).toNatClampNeg) (vE (h 7) len (pE (h 7) len 0 n) v 3)) 2 (2 + 3 * (vE (h 7) len (pE (h 7) len 0 n) v 2).toNatClampNeg + 1) (vE (h 7) len (pE (h 7) len 0 n) v 4)) 2 (2 + 3 * (vE (h 7) len (pE (h 7) len 0 n) v 2).toNatClampNeg + 2) (vE (h 7) len (pE (h 7) len 0 n) v 5), ?_, ?_⟩
                · show (if nI 1 = 0 then nI 0 else nI 1, _) = _
                  rw [if_neg (by decide)]
                · rw [up2_same, up2_same, up2_same, v2, v3, v4, v5, show n + 1 + 0 = n + 1 from rfl, ec, ex, nI_clamp (by omega)]
                  exact RT_set R (by omega) hx _ _
              obtain ⟨w, z, eB, hR⟩ := eB
              rw [eB]
              unfold tiS tbS
              rw [if_neg c1, if_pos c2, if_pos p1, if_pos p2, if_pos p3, if_pos p4]
              by_cases s1 : u 2 (n + 1 + 4) = nI 4
              · rw [if_pos s1]
                exact it_ok1 H (j := n + 1 + 3) (by omega) rfl rfl (show ¬ nI 1 = 0 by decide) a4 s1 hR
              · rw [if_neg s1]
                exact it_f2 H (j := n + 1 + 3) (by omega) rfl rfl (show ¬ nI 1 = 0 by decide) a4 s1
            · exact fail (n + 1 + 3) _ _ _ (by omega) (by unfold rbS; rw [if_neg r1, if_neg r2, if_neg r3, if_pos (nrb0 (by rw [a4]; exact fun z => p4 ((pn_nr H (by omega) _ _ _).mpr z)))]) a4 (by unfold tbS; rw [if_pos p1, if_pos p2, if_pos p3, if_neg p4])
          · exact fail (n + 1 + 2) _ _ _ (by omega) (by unfold rbS; rw [if_neg r1, if_neg r2, if_pos (nrb0 (by rw [a3]; exact fun z => p3 ((pn_nr H (by omega) _ _ _).mpr z)))]) a3 (by unfold tbS; rw [if_pos p1, if_pos p2, if_neg p3])
        · exact fail (n + 1 + 1) _ _ _ (by omega) (by unfold rbS; rw [if_neg r1, if_pos (nrb0 (by rw [a2]; exact fun z => p2 ((pn_nr H (by omega) _ _ _).mpr z)))]) a2 (by unfold tbS; rw [if_pos p1, if_neg p2])
      · exact fail (n + 1) _ _ _ (by omega) (by unfold rbS; rw [if_pos (nrb0 (by rw [a1, RT_0 R]; exact fun z => p1 ((pn_nr H (by omega) _ _ _).mpr z)))]) a1 (by unfold tbS; rw [if_neg p1])
    · have m2 : ¬ kc (nK (h 7) len (pE (h 7) len 0 n)) = nI 1004 := fun z => c2 (by rw [hk]; exact kc_k.2.2.1.mp z)
      unfold tiS riS
      rw [if_neg c1, if_neg c2, if_neg m1, if_neg m2]
      exact it_f1 H hn rfl rfl nI_0 rfl
end ITEMS
/-- all items, in both -/
theorem pl_mp {u : Rg} {g : Nat → Int32} {len N : Nat} (H : TKF u g len N) (hN : N ≤ 80) : ∀ (f n : Nat) (L h : Rg) (v : Int32) (k : Nat), h 7 = g → n ≤ N → N < n + f → k ≤ n → RT L (h 2) → h 0 16 = nI k →
    (∃ K L', (mpP len f h (pE g len 0 n) v k).1 = -9 ∧ K ≤ 80 ∧ (plS u f n L k).1 = nI K ∧ (plS u f n L k).2.2 = spaS L' (nC L') ∧ RT L' ((mpP len f h (pE g len 0 n) v k).2.1 2) ∧ (mpP len f h (pE g len 0 n) v k).2.1 0 16 = nI K) ∨ ∃ s, s ≤ len ∧ (plS u f n L k).1 = -10 - nI s ∧ (mpP len f h (pE g len 0 n) v k).1 = nI s
  | 0, n, L, h, v, k, _, h1, h2, _, _, _ => absurd h2 (by omega)
  | f + 1, n, L, h, v, k, hg, h1, h2, h3, R, h16 => by
    subst hg
    have hk := (H.2 n h1).1
    rw [plS, mpP]
    by_cases z : u 2 n = nI 0
    · have z' : kc (nK (h 7) len (pE (h 7) len 0 n)) = nI 1000 := kc_k.1.mpr (by rw [← hk]; exact z)
      rw [if_pos z, if_pos z']
      exact Or.inl ⟨k, L, rfl, by omega, rfl, rfl, R, h16⟩
    · have z' : ¬ kc (nK (h 7) len (pE (h 7) len 0 n)) = nI 1000 := fun q => z (by rw [hk]; exact kc_k.1.mp q)
      rw [if_neg z, if_neg z']
      have e7 : (riS h len (pE (h 7) len 0 n) v (fB k)).2.2.2 7 = h 7 := (riS_Sc h len (pE (h 7) len 0 n) v (fB k)).1 7 (by decide) (by decide)
      rcases it_ok (b := fB k) (v := v) H h1 R with ⟨t1, t2, t3, t4, t5⟩ | ⟨t1, s, hs, t2, t3⟩
      · have q1 : ¬ (tiS u L n (fB k)).1 = 0 := by rw [t1]; decide
        obtain ⟨o1, o2, -⟩ := tiS_ok H.1 h1 R.2.1 q1
        rw [if_neg q1, if_neg t2, e7, if_pos t3, t4]
        exact pl_mp H hN f _ _ _ _ (k + 1) (by rw [up2_ne (by decide)]; exact e7) o2 (by omega) (by omega) (by rw [up2_ne (by decide)]; exact t5) (by rw [up2_same, upd_eq])
      · have q1 : (tiS u L n (fB k)).1 = 0 := by rw [t1]; decide
        rw [if_pos q1]
        rcases t3 with ⟨b1, b2⟩ | ⟨b1, b2, b3⟩
        · rw [if_pos b1, e7]
          refine Or.inr ⟨s, hs, ?_, ?_⟩
          · show -10 - u 3 (tiS u L n (fB k)).2.1 = _
            rw [t2]
          · show nI (nS (h 7) len (riS h len (pE (h 7) len 0 n) v (fB k)).2.1) = _
            rw [b2]
        · rw [if_neg b1, e7, if_neg b2]
          refine Or.inr ⟨s, hs, ?_, ?_⟩
          · show -10 - u 3 (tiS u L n (fB k)).2.1 = _
            rw [t2]
          · show nI (nS (h 7) len (nE (h 7) len (riS h len (pE (h 7) len 0 n) v (fB k)).2.1)) = _
            rw [b3]
