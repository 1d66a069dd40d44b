/-! ===== each call, by both ===== -/
theorem con_q {X : Cx} {l : Launch} {y : MethodName} {cc : ByteArray} {nL : Nat} {ret : Option FieldType} {d : Nat} {As : List Value} {σ : Hp} {Q Q' : Option Value → Hp → Prop} (hq : ∀ r u, Q r u → Q' r u) (h : Con X l y cc nL ret d As σ Q) : Con X l y cc nL ret d As σ Q' := by
  intro p e ha hc hk s m args below hf happ hP hK
  obtain ⟨k, o, h1, h2, h3, ⟨⟨r, u, c1, c2, c3⟩, c4⟩, c5⟩ := h p e ha hc hk s m args below hf happ hP hK
  exact ⟨k, o, h1, h2, h3, ⟨⟨r, u, c1, hq r u c2, c3⟩, c4⟩, c5⟩
/-- worlds that agree in what the relation reads -/
theorem Rel_cg {σ σ' : Hp} (R : Rel σ) (e0 : σ' 0 0 0 8 = σ 0 0 0 8) (e1 : ∀ k, k = 2 ∨ k = 3 ∨ k = 4 → σ' 0 0 k = σ 0 0 k) (e2 : σ' 1 0 = σ 1 0) (e3 : ∀ r, 2 ≤ r → σ' 1 r = σ 1 r) (e4 : σ' 2 0 0 1 = σ 2 0 0 1 ∧ σ' 2 0 0 2 = σ 2 0 0 2) (e5 : σ' 3 0 0 1 = σ 3 0 0 1) (e6 : σ' 3 0 1 = σ 3 0 1) (e7 : σ' 4 0 0 4 = σ 4 0 0 4 ∧ σ' 4 0 0 8 = σ 4 0 0 8 ∧ σ' 4 0 0 15 = σ 4 0 0 15) (e8 : ∀ k, k = 1 ∨ 4 ≤ k → σ' 4 0 k = σ 4 0 k) : Rel σ' := by
  obtain ⟨r1, ⟨r2, r3⟩, ⟨r4, r5, r6⟩, r7, r8, ⟨r9, r10, r11⟩, r12, ⟨r13, r14, r15⟩, r16⟩ := R
  refine Rel_of (nx := nX σ) (kn := kN σ) (sn := sN σ) (tl := tL σ) ?_ (e4.1.trans r2) r3 (e4.2.trans r4) r5 (e7.1.trans r6) ?_ ?_ (e0.trans r9) r10 (e7.2.2.trans r11) ?_ (e5.trans r13) r14 (e7.2.1.trans r15) ?_
  · rw [e2, e8 1 (Or.inl rfl)]; exact r1
  · rw [e8 4 (Or.inr (by decide))]
    exact HR_cg r7 (fun k _ => e3 (2 + k) (by omega))
  · rw [e1 2 (Or.inl rfl), e8 6 (Or.inr (by decide)), e8 5 (Or.inr (by decide))]
    intro j hj
    refine ⟨(r8 j hj).1, fun z => ?_⟩
    show GD (σ' 1 (10 + j)) _
    rw [e3 (10 + j) (by omega)]
    exact (r8 j hj).2 z
  · rw [e1 3 (Or.inr (Or.inl rfl)), e1 4 (Or.inr (Or.inr rfl)), e8 8 (Or.inr (by decide)), e8 9 (Or.inr (by decide))]
    exact r12
  · rw [e6, e8 7 (Or.inr (by decide))]; exact r16
theorem Rel_JK {σ u : Hp} (R : Rel σ) (J : JK σ u) : Rel u := by
  obtain ⟨g, a, rfl⟩ := J
  refine Rel_cg R rfl (fun k hk => ?_) rfl (fun r hr => ?_) ⟨rfl, rfl⟩ rfl rfl ⟨rfl, rfl, rfl⟩ (fun _ _ => rfl)
  · rw [setR_self, up1_ne (by omega)]
  · rw [setR_ne (by omega), setR_ne (by omega)]
theorem JK_4 {σ u : Hp} (J : JK σ u) : u 4 = σ 4 := by
  obtain ⟨g, a, rfl⟩ := J
  rfl
theorem Rel_s3 {u : Hp} (R : Rel u) (s : Nat → Int32) : Rel (setR u 4 0 (up1 (up1 (u 4 0) 3 s) 1 (u 4 0 1))) := by
  refine Rel_cg R rfl (fun _ _ => rfl) rfl (fun _ _ => setR_ne (by omega)) ⟨rfl, rfl⟩ rfl rfl ⟨rfl, rfl, rfl⟩ (fun k hk => ?_)
  rw [setR_self]
  by_cases e : k = 1
  · rw [e, up1_same]
  · rw [up1_ne e, up1_ne (by omega)]
section PAIRS2
variable {X : Cx} {l : Launch} {σ : Hp}
theorem pair_passes {n : Int32} (hL : LVs X) (hv4 : Lv X 4 0) (R : Rel σ) : Con X l yX3_passes cX3_passes 2 (some .int) 4 [.ref (adr X 0 0 0), .int n] σ (Q1 X l yX4_passes cX4_passes 2 2 [.int n]) := by
  have G := R.1
  have hC : (¬ n < nI 1 ∧ n ≤ nI 99) ↔ inB n (nI 1) (nI 99) := inB_e.symm
  have e1 := RL_1 G.1
  refine k_X3_passes hL R.cw (fun hB => ⟨-1, rfl, con_m (k_X4_passes hv4 R.2.2.1.2.2 R.2.2.1.2.1 (fun _ => q2m R _) (fun q _ => absurd (hC.mpr q) hB) (fun q _ => absurd (hC.mpr q) hB))⟩) (fun h1 h2 => ⟨-2, rfl, con_m (k_X4_passes hv4 R.2.2.1.2.2 R.2.2.1.2.1 (fun q => absurd (hC.mp h1) q) (fun _ _ => q2m R _) (fun _ q => absurd (by rw [← e1]; exact q) h2))⟩) (fun h1 h2 => ?_)
  refine ⟨_, rfl, con_m (k_X4_passes (n := kN σ) hv4 R.2.2.1.2.2 R.2.2.1.2.1 (fun q => absurd (hC.mp h1) q) (fun _ q => absurd (by rw [do_4, e1]; exact h2) q) (fun _ _ => ?_))⟩
  rw [do_4, e1]
  exact ⟨rfl, Rel_do R (GD_time G _)⟩
theorem pop_k {h : Rg} {m : Nat → Int32} (G : GD h m) {a : Nat} (ha : a < 4) : popS (h 4 a) = cbS (m (87 + a)) 24 := by
  rw [RL_k G.1 ha]
  exact pop_cb _ (tn_lt _ (by decide) (fun i h1 h2 => G.2.2.1 a ha i h2 (Nat.le_trans G.1.1.2.2.2.2 h1)))
theorem pair_pulls {a c : Int32} (hL : LVs X) (hv4 : Lv X 4 0) (R : Rel σ) : Con X l yX3_pulls cX3_pulls 4 (some .int) 4 [.ref (adr X 0 0 0), .int a, .int c] σ (Q1 X l yX4_pulls cX4_pulls 4 3 [.int a, .int c]) := by
  have G := R.1
  have hC := ap_eq G.1 a c
  have hc4 := G.1.1.2.2.1
  have eC := RL_C G.1
  refine k_X3_pulls hL R.cw (fun hB => ⟨-1, rfl, con_m (k_X4_pulls hv4 (RL_Wm G.1) R.2.2.1.2.2 R.2.2.1.2.1 (fun _ => q2m R _) (fun i j hi hj e1 e2 hij => absurd (hC.mpr ⟨by rw [e1]; exact icM_of (RL_Wm G.1) hi, by rw [e2]; exact icM_of (RL_Wm G.1) hj, by rw [e1, e2]; exact fun z => hij ((nI_eq (by omega) (by omega)).mp z)⟩) hB))⟩) (fun i j hi hj e1 e2 hij => ?_)
  have h1 : arP (σ 1 0) a c := ⟨by rw [e1]; exact isCp_of G.1.1 hi, by rw [e2]; exact isCp_of G.1.1 hj, by rw [e1, e2]; exact fun z => hij ((nI_eq (by omega) (by omega)).mp z)⟩
  have g1 := GD_pull G (a := i) (c := j) (by omega) (by omega)
  refine ⟨_, rfl, con_m (k_X4_pulls (n := kN σ) hv4 (by rw [do_4]; exact RL_Wm G.1) R.2.2.1.2.2 R.2.2.1.2.1 (fun q => absurd (hC.mp h1) q) (fun i' j' hi' hj' e1' e2' _ => ?_))⟩
  rw [do_4] at hi' hj' ⊢
  have q1 : i' = i := i_inj (by omega) (by omega) e1 e1'
  have q2 : j' = j := i_inj (by omega) (by omega) e2 e2'
  subst q1 q2
  exact ⟨by rw [pop_k g1 (by omega), pop_k G (by omega)], Rel_do R g1⟩
theorem pair_reads {c : Int32} (hL : LVs X) (hv4 : Lv X 4 0) (R : Rel σ) : Con X l yX3_reads cX3_reads 2 (some .int) 5 [.ref (adr X 0 0 0), .int c] σ (Q1 X l yX4_reads cX4_reads 2 3 [.int c]) := by
  have G := R.1
  have hC := ic_eq G.1 c
  have hc4 := G.1.1.2.2.1
  have eC := RL_C G.1
  refine k_X3_reads hL R.cw (fun hB => ⟨-1, rfl, con_m (k_X4_reads hv4 (RL_Wm G.1) R.2.2.1.2.2 R.2.2.1.2.1 (fun _ => q2m R _) (fun i hi e => absurd (hC.mpr (by rw [e]; exact icM_of (RL_Wm G.1) hi)) hB))⟩) (fun i hi e => ?_)
  have h1 : isCp (σ 1 0) c := by rw [e]; exact isCp_of G.1.1 hi
  obtain ⟨g1, g2⟩ := GD_read G (a := i) (by omega)
  refine ⟨_, rfl, con_m (k_X4_reads (n := kN σ) hv4 (by rw [do_4]; exact RL_Wm G.1) R.2.2.1.2.2 R.2.2.1.2.1 (fun q => absurd (hC.mp h1) q) (fun i' hi' e' => ?_))⟩
  rw [do_4] at hi' ⊢
  have q1 : i' = i := i_inj (by omega) (by omega) e e'
  subst q1
  exact ⟨by rw [g2], Rel_do R g1⟩
theorem pair_evens {c : Int32} (hL : LVs X) (hv4 : Lv X 4 0) (R : Rel σ) : Con X l yX3_evens cX3_evens 2 (some .int) 5 [.ref (adr X 0 0 0), .int c] σ (Q1 X l yX4_evens cX4_evens 6 4 [.int c]) := by
  have G := R.1
  have hC := ic_eq G.1 c
  have hc4 := G.1.1.2.2.1
  have eC := RL_C G.1
  refine k_X3_evens hL R.cw (fun hB => ⟨-1, rfl, con_m (k_X4_evens hv4 (RL_Wm G.1) R.2.2.1.2.2 R.2.2.1.2.1 (fun _ => q2m R _) (fun i hi e => absurd (hC.mpr (by rw [e]; exact icM_of (RL_Wm G.1) hi)) hB))⟩) (fun i hi e => ?_)
  have h1 : isCp (σ 1 0) c := by rw [e]; exact isCp_of G.1.1 hi
  obtain ⟨g2, g1⟩ := GD_eve G (a := i) hi
  refine ⟨_, rfl, con_m (k_X4_evens (n := kN σ) hv4 (by rw [do_4]; exact RL_Wm G.1) R.2.2.1.2.2 R.2.2.1.2.1 (fun q => absurd (hC.mp h1) q) (fun i' hi' e' => ?_))⟩
  rw [do_4] at hi' ⊢
  have q1 : i' = i := i_inj (by omega) (by omega) e e'
  subst q1
  exact ⟨by rw [g2], Rel_do R g1⟩
theorem pair_moves {a c e k : Int32} (hL : LVs X) (hv4 : Lv X 4 0) (R : Rel σ) : Con X l yX3_moves cX3_moves 5 (some .int) 4 [.ref (adr X 0 0 0), .int a, .int c, .int e, .int k] σ (Q1 X l yX4_moves cX4_moves 5 4 [.int a, .int c, .int e, .int k]) := by
  have G := R.1
  have hC : (arP (σ 1 0) a c ∧ arP (σ 1 0) a e ∧ ¬ c = e ∧ ¬ k < nI 1 ∧ k ≤ nI 99) ↔ (apM (σ 4 0 1) a c ∧ apM (σ 4 0 1) a e ∧ ¬ c = e ∧ inB k (nI 1) (nI 99)) := by rw [ap_eq G.1 a c, ap_eq G.1 a e, inB_e]
  have hc4 := G.1.1.2.2.1
  have eC := RL_C G.1
  refine k_X3_moves hL R.cw (fun hB => ⟨-1, rfl, con_m (k_X4_moves hv4 (RL_Wm G.1) R.2.2.1.2.2 R.2.2.1.2.1 (fun _ => q2m R _) (fun i j _ _ _ _ q _ => absurd (hC.mpr q) hB) (fun i j q _ _ _ _ _ _ z _ => absurd (hC.mpr z) hB))⟩) (fun i j hi hj e1 e2 h1 h2 => ?_) (fun i j q hi hj hq e1 e2 e3 h1 h2 => ?_)
  · have hij : ¬ j = i := fun z => h1.1.2.2 (by rw [e1, e2, z])
    refine ⟨-2, rfl, con_m (k_X4_moves hv4 (RL_Wm G.1) R.2.2.1.2.2 R.2.2.1.2.1 (fun q => absurd (hC.mp h1) q) (fun _ _ _ _ _ _ _ _ => q2m R _) (fun i' j' q' hi' hj' hq' e1' e2' e3' _ z => ?_))⟩
    have q1 : i' = i := i_inj (by omega) (by omega) e1 e1'
    have q2 : j' = j := i_inj (by omega) (by omega) e2 e2'
    subst q1 q2
    exact absurd (by rw [← RL_lf G.1 hi hj (fun s => hij s.symm)]; exact z) h2
  · have hij : ¬ i = j := fun z => h1.1.2.2 (by rw [e1, e2, z])
    have hiq : ¬ i = q := fun z => h1.2.1.2.2 (by rw [e1, e3, z])
    have hjq : ¬ j = q := fun z => h1.2.2.1 (by rw [e2, e3, z])
    obtain ⟨w, hw1, hw2, ew⟩ := inB_i (by decide) (by decide) (hC.mp h1).2.2.2
    subst ew
    obtain ⟨g1, g2⟩ := GD_move G hi hj hq hij hiq hjq hw2 h2
    refine ⟨_, rfl, con_m (k_X4_moves (n := kN σ) hv4 (by rw [do_4]; exact RL_Wm G.1) R.2.2.1.2.2 R.2.2.1.2.1 (fun z => absurd (hC.mp h1) z) (fun i' j' hi' hj' e1' e2' _ z => ?_) (fun i' j' q' hi' hj' hq' e1' e2' e3' _ _ => ?_))⟩
    · rw [do_4] at hi' hj' z
      have q1 : i' = i := i_inj (by omega) (by omega) e1 e1'
      have q2 : j' = j := i_inj (by omega) (by omega) e2 e2'
      subst q1 q2
      exact absurd (by rw [RL_lf G.1 hi hj hij]; exact h2) z
    · rw [do_4] at hi' hj' hq' ⊢
      have q1 : i' = i := i_inj (by omega) (by omega) e1 e1'
      have q2 : j' = j := i_inj (by omega) (by omega) e2 e2'
      have q3 : q' = q := i_inj (by omega) (by omega) e3 e3'
      subst q1 q2 q3
      exact ⟨by rw [g2], Rel_do R g1⟩
theorem in0 {x : Int32} {b : Nat} : inB x (nI 0) (nI b) ↔ (¬ x < 0 ∧ ¬ nI b < x) := Iff.rfl
theorem pair_bounds {c x y z : Int32} (hL : LVs X) (hv4 : Lv X 4 0) (R : Rel σ) : Con X l yX3_bounds cX3_bounds 5 (some .int) 6 [.ref (adr X 0 0 0), .int c, .int x, .int y, .int z] σ (Q1 X l yX4_bounds cX4_bounds 9 4 [.int c, .int x, .int y, .int z]) := by
  have G := R.1
  have hC : (isCp (σ 1 0) c ∧ (¬ x < 0 ∧ ¬ nI 99 < x) ∧ (¬ y < 0 ∧ ¬ nI 9 < y) ∧ (¬ z < 0 ∧ z ≤ nI 99)) ↔ (icM (σ 4 0 1) c ∧ inB x (nI 0) (nI 99) ∧ inB y (nI 0) (nI 9) ∧ inB z (nI 0) (nI 99)) := by rw [ic_eq G.1, in0, in0, in0, Int32.not_lt (a := nI 99) (b := z)]
  have hc4 := G.1.1.2.2.1
  have eC := RL_C G.1
  have hB3 : ∀ i, i < nC (σ 1 0) → (((σ 1 0) 1 i = x ∧ (σ 1 0) 2 i = y ∧ (σ 1 0) 3 i = z) ↔ (σ 4 0 1 (2 + 3 * i) = x ∧ σ 4 0 1 (2 + 3 * i + 1) = y ∧ σ 4 0 1 (2 + 3 * i + 2) = z)) := fun i hi => by
    obtain ⟨k1, k2, k3⟩ := RL_b G.1 (show i < 4 by omega)
    rw [k1, k2, k3]
  refine k_X3_bounds hL R.cw (fun hB => ⟨-1, rfl, con_m (k_X4_bounds hv4 (RL_Wm G.1) R.2.2.1.2.2 R.2.2.1.2.1 (fun _ => q2m R _) (fun i _ _ q _ => absurd (hC.mpr q) hB) (fun i _ _ q _ => absurd (hC.mpr q) hB))⟩) (fun i hi e h1 h2 => ?_) (fun i hi e h1 h2 => ?_)
  · refine ⟨-2, rfl, con_m (k_X4_bounds hv4 (RL_Wm G.1) R.2.2.1.2.2 R.2.2.1.2.1 (fun q => absurd (hC.mp h1) q) (fun _ _ _ _ _ => q2m R _) (fun i' hi' e' _ q => ?_))⟩
    have q1 : i' = i := i_inj (by omega) (by omega) e e'
    subst q1
    exact absurd ((hB3 _ hi).mp h2) q
  · obtain ⟨w, hw1, hw2, ew⟩ := inB_i (by decide) (by decide) (hC.mp h1).2.1
    subst ew
    obtain ⟨g1, g2⟩ := GD_bind G hi hw2 y z
    refine ⟨_, rfl, con_m (k_X4_bounds (n := kN σ) hv4 (by rw [do_4]; exact RL_Wm G.1) R.2.2.1.2.2 R.2.2.1.2.1 (fun q => absurd (hC.mp h1) q) (fun i' hi' e' _ q => ?_) (fun i' hi' e' _ _ => ?_))⟩
    · rw [do_4] at hi' q
      have q1 : i' = i := i_inj (by omega) (by omega) e e'
      subst q1
      exact absurd ((hB3 _ hi).mpr q) h2
    · rw [do_4] at hi' ⊢
      have q1 : i' = i := i_inj (by omega) (by omega) e e'
      subst q1
      exact ⟨by rw [g2], Rel_do R g1⟩
theorem pair_undo (hL : LVs X) (hv4 : Lv X 4 0) (R : Rel σ) : Con X l yX3_undo cX3_undo 1 (some .int) 4 [.ref (adr X 0 0 0)] σ (Q1 X l yX4_undo cX4_undo 1 1 []) := by
  have R0 := R
  obtain ⟨r1, ⟨r2, r3⟩, ⟨r4, r5, r6⟩, r7, r8, ⟨r9, r10, r11⟩, r12, ⟨r13, r14, r15⟩, r16⟩ := R
  refine k_X3_undo hL R0.cw (fun h0 => ⟨-2, rfl, con_m (k_X4_undo hv4 r6 r5 (fun _ => q2m R0 _) (fun q => absurd q h0))⟩) (fun h0 => ?_)
  refine ⟨_, rfl, con_m (k_X4_undo (n := kN σ) hv4 r6 r5 (fun q => absurd h0 q) (fun _ => ⟨rfl, ?_⟩))⟩
  have eM : resS σ (nX σ) (kN σ) 4 0 = σ 4 0 := rfl
  rw [eM]
  obtain ⟨g1, g2⟩ := HR_res r3 r5 h0 r7
  have hp := prv_lt r3
  refine Rel_of (nx := prv (nX σ)) (kn := kN σ - 1) (sn := sN σ) (tl := tL σ) ?_ rfl hp rfl (by omega) rfl ?_ ?_ r9 r10 r11 r12 r13 r14 r15 r16
  · refine GD_ext g2 (fun j hj => ?_)
    have := cpy_at (f := σ 4 0 4) (g := σ 4 0 1) (i := 127 * (kN σ - 1)) (j := 0) hj
    rw [Nat.zero_add] at this
    exact this
  · exact HR_cg g1 (fun k hk => by
      show setR (resS σ (nX σ) (kN σ)) 4 0 _ 1 (2 + k) = _
      rw [setR_ne (by omega)]
      unfold resS
      rw [setR_ne (by omega), setR_ne (by omega)])
  · intro j hj
    refine ⟨(r8 j hj).1, fun z => ?_⟩
    show GD (setR (resS σ (nX σ) (kN σ)) 4 0 _ 1 (10 + j)) _
    rw [setR_ne (by omega)]
    unfold resS
    rw [setR_ne (by omega), setR_ne (by omega)]
    exact (r8 j hj).2 z
theorem pair_copy {c w : Int32} (hL : LVs X) (hv4 : Lv X 4 0) (R : Rel σ) : Con X l yX3_copy cX3_copy 3 (some .int) 5 [.ref (adr X 0 0 0), .int c, .int w] σ (Q1 X l yX4_copy cX4_copy 3 5 [.int c, .int w]) := by
  have G := R.1
  have hC := ic_eq G.1 c
  have hc4 := G.1.1.2.2.1
  have eC := RL_C G.1
  refine k_X3_copy hL R.cw (fun hB => ⟨-1, rfl, con_m (k_X4_copy hv4 (RL_Wm G.1) (fun _ => q2m R _) (fun i k s hi e _ _ => absurd (hC.mpr (by rw [e]; exact icM_of (RL_Wm G.1) hi)) hB))⟩) (fun _ hD => ⟨-1, rfl, con_m (k_X4_copy hv4 (RL_Wm G.1) (fun _ => q2m R _) (fun i k s _ _ hk e => absurd e (hD k (by omega))))⟩) (fun i k u hi e hk ek J => ?_)
  have Ru := Rel_JK R J
  have e4 : u 4 0 = σ 4 0 := congrFun (JK_4 J) 0
  have h1 : icM (σ 4 0 1) c ∧ inB w (nI 0) (nI 9) := ⟨by rw [e]; exact icM_of (RL_Wm G.1) (by omega), by rw [ek]; exact inB_of (by omega) (by omega) (by omega)⟩
  refine ⟨_, rfl, con_m (k_X4_copy hv4 (by rw [e4]; exact RL_Wm G.1) (fun q => absurd (by rw [e4]; exact h1) q) (fun i' k' s hi' e' hk' ek' => ?_))⟩
  rw [e4] at hi'
  have q1 : i' = i := i_inj (by omega) (by omega) e e'
  have q2 : k' = k := i_inj (by omega) (by omega) ek ek'
  subst q1 q2
  refine ⟨?_, Rel_s3 Ru s⟩
  rw [e4, cp_eq G hi _ hk]
theorem pair_pair {a c w : Int32} (hL : LVs X) (hv4 : Lv X 4 0) (R : Rel σ) : Con X l yX3_pair cX3_pair 4 (some .int) 4 [.ref (adr X 0 0 0), .int a, .int c, .int w] σ (Q1 X l yX4_pair cX4_pair 4 4 [.int a, .int c, .int w]) := by
  have G := R.1
  have hC := ap_eq G.1 a c
  have hc4 := G.1.1.2.2.1
  have eC := RL_C G.1
  refine k_X3_pair hL R.cw (fun hB => ⟨-1, rfl, con_m (k_X4_pair hv4 (RL_Wm G.1) (fun _ => q2m R _) (fun i j k hi hj e1 e2 hij _ _ => absurd (hC.mpr ⟨by rw [e1]; exact icM_of (RL_Wm G.1) hi, by rw [e2]; exact icM_of (RL_Wm G.1) hj, by rw [e1, e2]; exact fun z => hij ((nI_eq (by omega) (by omega)).mp z)⟩) hB))⟩) (fun _ hD => ⟨-1, rfl, con_m (k_X4_pair hv4 (RL_Wm G.1) (fun _ => q2m R _) (fun i j k _ _ _ _ _ hk e => absurd e (hD k (by omega))))⟩) (fun i j k hi hj e1 e2 hij hk ek => ?_)
  have h1 : arP (σ 1 0) a c := ⟨by rw [e1]; exact isCp_of G.1.1 hi, by rw [e2]; exact isCp_of G.1.1 hj, by rw [e1, e2]; exact fun z => hij ((nI_eq (by omega) (by omega)).mp z)⟩
  have h2 : apM (σ 4 0 1) a c ∧ inB w (nI 0) (nI 3) := ⟨hC.mp h1, by rw [ek]; exact inB_of (by omega) (by omega) (by omega)⟩
  refine ⟨_, rfl, con_m (k_X4_pair hv4 (RL_Wm G.1) (fun q => absurd h2 q) (fun i' j' k' hi' hj' e1' e2' _ hk' ek' => ?_))⟩
  have q1 : i' = i := i_inj (by omega) (by omega) e1 e1'
  have q2 : j' = j := i_inj (by omega) (by omega) e2 e2'
  have q3 : k' = k := i_inj (by omega) (by omega) ek ek'
  subst q1 q2 q3
  rw [pr_eq G hi hj hij _ hk]
  exact q2m R _
theorem pair_write {v w : Int32} (hL : LVs X) (hv4 : Lv X 4 0) (R : Rel σ) : Con X l yX3_write cX3_write 3 (some .int) 1 [.ref (adr X 0 0 0), .int v, .int w] σ (Q1 X l yX4_write cX4_write 3 1 [.int v, .int w]) := by
  have G := R.1
  have h24 := G.1.1.2.2.2.2
  have eW := RL_W G.1
  refine k_X3_write hL R.cw (fun hB => ⟨-1, rfl, con_m (k_X4_write hv4 (RL_Wm G.1) (fun _ => q2m R _) (fun i k hi e _ _ => absurd e (hB i (by omega))))⟩) (fun i hi e hD => ⟨-1, rfl, con_m (k_X4_write hv4 (RL_Wm G.1) (fun _ => q2m R _) (fun i k _ _ hk e => absurd e (hD k (by omega))))⟩) (fun i k hi e hk ek => ?_)
  have h2 : inB v (nI 0) (σ 4 0 1 14 - nI 1) ∧ inB w (nI 0) (nI 4) := ⟨by rw [e]; exact inW_of (RL_Wm G.1) (by omega), by rw [ek]; exact inB_of (by omega) (by omega) (by omega)⟩
  refine ⟨_, rfl, con_m (k_X4_write hv4 (RL_Wm G.1) (fun q => absurd h2 q) (fun i' k' hi' e' hk' ek' => ?_))⟩
  have q1 : i' = i := i_inj (by omega) (by omega) e e'
  have q3 : k' = k := i_inj (by omega) (by omega) ek ek'
  subst q1 q3
  rw [wr_eq G hi _ hk]
  exact q2m R _
theorem pair_costs {c w : Int32} (hL : LVs X) (hv4 : Lv X 4 0) (R : Rel σ) : Con X l yX3_costs cX3_costs 3 (some .int) 5 [.ref (adr X 0 0 0), .int c, .int w] σ (Q1 X l yX4_costs cX4_costs 5 4 [.int c, .int w]) := by
  have G := R.1
  have hC : (isCp (σ 1 0) c ∧ ¬ w < nI 1 ∧ w ≤ nI 999) ↔ (icM (σ 4 0 1) c ∧ inB w (nI 1) (nI 999)) := by rw [ic_eq G.1, inB_e]
  have hc4 := G.1.1.2.2.1
  have eC := RL_C G.1
  refine k_X3_costs hL R.cw (fun hB => ⟨-1, rfl, con_m (k_X4_costs hv4 (RL_Wm G.1) (fun _ => q2m R _) (fun i hi e q => absurd (hC.mpr ⟨by rw [e]; exact icM_of (RL_Wm G.1) hi, q⟩) hB))⟩) (fun i hi e h1 h2 => ?_)
  have hc1 : isCp (σ 1 0) c ∧ ¬ w < nI 1 ∧ w ≤ nI 999 := ⟨by rw [e]; exact isCp_of G.1.1 hi, h1, h2⟩
  refine ⟨_, rfl, con_m (k_X4_costs hv4 (RL_Wm G.1) (fun q => absurd (hC.mp hc1) q) (fun i' hi' e' _ => ?_))⟩
  have q1 : i' = i := i_inj (by omega) (by omega) e e'
  subst q1
  rw [pf_eq G hi w _ (Nat.le_refl _), eC]
  exact q2m R _
theorem pair_count {w : Int32} (hL : LVs X) (hv4 : Lv X 4 0) (R : Rel σ) : Con X l yX3_count cX3_count 2 (some .int) 2 [.ref (adr X 0 0 0), .int w] σ (Q1 X l yX4_count cX4_count 2 2 [.int w]) := by
  have G := R.1
  refine k_X3_count hL R.cw (fun hD => ⟨-1, rfl, con_m (k_X4_count hv4 (RL_Wm G.1) (fun _ => q2m R _) (fun k hk e => absurd e (hD k (by omega))))⟩) (fun k hk ek => ?_)
  refine ⟨_, rfl, con_m (k_X4_count hv4 (RL_Wm G.1) (fun q => absurd ek (q k (by omega))) (fun k' hk' ek' => ?_))⟩
  have q1 : k' = k := i_inj (by omega) (by omega) ek ek'
  subst q1
  have e : cnS σ k' = mCn (σ 4 0) (σ 4 0 1) k' := by
    match k', hk' with
    | 0, _ => exact (RL_0 G.1).symm
    | 1, _ => exact (RL_1 G.1).symm
    | 2, _ => exact (RL_14 G.1).symm
    | 3, _ => exact cn3_eq G.1
    | 4, _ =>
      show withS (σ 1 0 4) (allS (σ 1 0)) (nC (σ 1 0)) = fuM (σ 4 0 1) (mC (σ 4 0 1))
      rw [RL_C G.1]
      exact cn4_eq G.1 G.2.2.1 _ (Nat.le_refl _)
    | 5, _ => exact R.2.2.2.2.2.1.1.trans R.2.2.2.2.2.1.2.2.symm
    | 6, _ => exact R.2.2.2.2.2.2.2.1.1.trans R.2.2.2.2.2.2.2.1.2.2.symm
    | 7, _ => exact R.2.2.1.1.trans R.2.2.1.2.2.symm
  rw [e]
  exact q2m R _
end PAIRS2
