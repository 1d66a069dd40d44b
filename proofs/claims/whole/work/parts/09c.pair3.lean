section PAIRS3
variable {X : Cx} {l : Launch} {σ : Hp}
theorem m_id3 (u : Hp) : setR u 4 0 (up1 (up1 (u 4 0) 3 (u 4 0 3)) 1 (u 4 0 1)) = u := by rw [up1_id (u 4 0) 3, up1_id, setR_id]
theorem con_m3 {y : MethodName} {cc : ByteArray} {nL : Nat} {ret : Option FieldType} {d : Nat} {As : List Value} {u : Hp} {Q : Option Value → Hp → Prop} (h : Con X l y cc nL ret d As (setR u 4 0 (up1 (up1 (u 4 0) 3 (u 4 0 3)) 1 (u 4 0 1))) Q) : Con X l y cc nL ret d As u Q := by
  rw [m_id3] at h
  exact h
theorem con_m0 {y : MethodName} {cc : ByteArray} {nL : Nat} {ret : Option FieldType} {d : Nat} {As : List Value} {u : Hp} {K r : Nat} {Q : Option Value → Hp → Prop} (h : Con X l y cc nL ret d As (setR u K r (u K r)) Q) : Con X l y cc nL ret d As u Q := by
  rw [setR_id] at h
  exact h
theorem ExS_2 {u : Hp} (R : Rel u) {x : Int32} : ∀ r w, ExS x u (u 4 0) (u 4 0 1) r w → Q2 x r w := by
  rintro r w ⟨h1, s, rfl⟩
  exact ⟨h1, Rel_s3 R s⟩
theorem pair_which (hL : LVs X) (hv4 : Lv X 4 0) (R : Rel σ) : Con X l yX3_which cX3_which 3 (some .int) 5 [.ref (adr X 0 0 0)] σ (Q1 X l yX4_which cX4_which 1 6 []) := by
  have G := R.1
  refine con_q ?_ (con_ja (k_X3_which hL R.cw))
  rintro r u ⟨h1, g, hu⟩
  have J : JK σ u := by rw [hu]; exact jk_JK σ g _
  have Ru := Rel_JK R J
  have e4 : u 4 0 = σ 4 0 := congrFun (JK_4 J) 0
  refine ⟨_, h1, con_m3 (con_q (ExS_2 Ru) ?_)⟩
  have e : whiS (σ 1 0) (σ 0 0 3) (σ 0 0 4) (sN σ) (nC (σ 1 0)) = caM (u 4 0 1) (u 4 0 8) (u 4 0 9) (sN σ) (mC (u 4 0 1)) := by
    rw [e4, RL_C G.1]
    exact whi_eq G R.2.2.2.2.2.2.1 _ G.1.1.2.2.1
  rw [e]
  exact k_X4_which hv4 (by rw [e4]; exact RL_Wm G.1) (by rw [e4]; exact R.2.2.2.2.2.1.2.2) R.2.2.2.2.2.1.2.1
theorem pair_ask (hL : LVs X) (hv4 : Lv X 4 0) (R : Rel σ) : Con X l yX3_ask cX3_ask 6 (some .int) 6 [.ref (adr X 0 0 0)] σ (Q1 X l yX4_ask cX4_ask 6 6 []) := by
  have G := R.1
  refine con_q ?_ (k_X3_ask hL R.cw)
  rintro r u ⟨h1, J⟩
  have Ru := Rel_JK R J
  have e4 : u 4 0 = σ 4 0 := congrFun (JK_4 J) 0
  refine ⟨_, h1, con_m3 (con_q (ExS_2 Ru) ?_)⟩
  have e : askA σ = akA (u 4 0) (u 4 0 1) (sN σ) := by
    rw [e4]
    exact ask_eq G R.2.2.2.2.2.2.1
  rw [e]
  exact k_X4_ask hv4 (by rw [e4]; exact RL_Wm G.1) (by rw [e4]; exact R.2.2.2.2.2.1.2.2) R.2.2.2.2.2.1.2.1
theorem FR_put {sw sv fk fv : Nat → Int32} {n k : Nat} (F : FR sw sv fk fv n) (hk : k < 3) (x : Int32) : FR (upd sw n (nI k)) (upd sv n x) (upd fk n (nI k)) (upd fv n x) (n + 1) := by
  intro i hi
  by_cases e : i = n
  · rw [e, upd_eq, upd_eq, upd_eq, upd_eq]
    exact ⟨rfl, rfl, k, hk, rfl⟩
  · rw [upd_ne e, upd_ne e, upd_ne e, upd_ne e]
    exact F i (by omega)
theorem q2i {u : Hp} (R : Rel u) (x : Int32) : Q2 x (some (.int x)) (setR u 4 0 (u 4 0)) := ⟨rfl, by rw [setR_id]; exact R⟩
theorem pair_sees {v n : Int32} (hL : LVs X) (hv4 : Lv X 4 0) (R : Rel σ) : Con X l yX3_sees cX3_sees 3 (some .int) 0 [.ref (adr X 0 0 0), .int v, .int n] σ (Q1 X l yX4_sees cX4_sees 3 1 [.int v, .int n]) := by
  have R0 := R
  obtain ⟨r1, ⟨r2, r3⟩, ⟨r4, r5, r6⟩, r7, r8, ⟨r9, r10, r11⟩, r12, ⟨r13, r14, r15⟩, r16⟩ := R
  have h3 : ¬ nI 3 ≤ v ↔ ¬ nI 2 < v := by
    rw [Int32.le_iff_toInt_le, Int32.lt_iff_toInt_lt, nI_toInt (by decide), nI_toInt (by decide)]
    omega
  have hC : (¬ v < 0 ∧ ¬ nI 3 ≤ v ∧ ¬ n < 0 ∧ n ≤ nI 999) ↔ (inB v (nI 0) (nI 2) ∧ inB n (nI 0) (nI 999)) := by
    rw [in0, in0, h3, Int32.not_lt (a := nI 999) (b := n), and_assoc]
  refine con_m0 (K := 0) (r := 0) (k_sees0 hL.1 r9 r10 (fun hB => ?_) (fun h1 h2 => ?_) (fun h1 h2 => ?_))
  · rw [setR_id]
    exact ⟨-1, rfl, con_m0 (K := 4) (r := 0) (k_X4_sees hv4 r11 r10 (fun _ => q2i R0 _) (fun q _ => absurd (hC.mpr q) hB) (fun q _ => absurd (hC.mpr q) hB))⟩
  · rw [setR_id]
    exact ⟨-3, rfl, con_m0 (K := 4) (r := 0) (k_X4_sees hv4 r11 r10 (fun q => absurd (hC.mp h1) q) (fun _ _ => q2i R0 _) (fun _ q => absurd q h2))⟩
  · obtain ⟨k, -, hk, ek⟩ := inB_i (by decide) (by decide) (hC.mp h1).1
    subst ek
    refine ⟨_, rfl, con_m0 (K := 4) (r := 0) (k_X4_sees (s := sN σ) hv4 r11 r10 (fun q => absurd (hC.mp h1) q) (fun _ q => absurd h2 q) (fun _ _ => ⟨rfl, ?_⟩))⟩
    refine Rel_of (nx := nX σ) (kn := kN σ) (sn := sN σ + 1) (tl := tL σ) r1 r2 r3 r4 r5 r6 ?_ ?_ rfl (by omega) rfl (FR_put r12 (by omega) n) r13 r14 r15 r16
    · exact HR_cg r7 (fun k _ => by
        show setR _ 4 0 _ 1 (2 + k) = _
        rw [setR_ne (by omega), setR_ne (by omega)])
    · intro j hj
      refine ⟨(r8 j hj).1, fun z => ?_⟩
      show GD (setR _ 4 0 _ 1 (10 + j)) _
      rw [setR_ne (by omega), setR_ne (by omega)]
      exact (r8 j hj).2 z
theorem pair_forget (hL : LVs X) (hv4 : Lv X 4 0) (R : Rel σ) : Con X l yX3_forget cX3_forget 2 (some .int) 0 [.ref (adr X 0 0 0)] σ (Q1 X l yX4_forget cX4_forget 2 0 []) := by
  obtain ⟨r1, ⟨r2, r3⟩, ⟨r4, r5, r6⟩, r7, r8, ⟨r9, r10, r11⟩, r12, ⟨r13, r14, r15⟩, r16⟩ := R
  refine con_m0 (K := 0) (r := 0) (con_q ?_ (k_X3_forget hL.1))
  rintro r u ⟨rfl, rfl⟩
  refine ⟨_, rfl, con_m0 (K := 4) (r := 0) (con_q ?_ (k_X4_forget hv4))⟩
  rintro r u ⟨rfl, rfl⟩
  refine ⟨?_, ?_⟩
  · show some (Value.int (σ 4 0 0 15)) = some (Value.int (σ 0 0 0 8))
    rw [r9, r11]
  · refine Rel_of (nx := nX σ) (kn := kN σ) (sn := 0) (tl := tL σ) r1 r2 r3 r4 r5 r6 ?_ ?_ rfl (by omega) rfl (fun i hi => absurd hi (Nat.not_lt_zero _)) r13 r14 r15 r16
    · exact HR_cg r7 (fun k _ => by
        show setR _ 4 0 _ 1 (2 + k) = _
        rw [setR_ne (by omega), setR_ne (by omega)])
    · intro j hj
      refine ⟨(r8 j hj).1, fun z => ?_⟩
      show GD (setR _ 4 0 _ 1 (10 + j)) _
      rw [setR_ne (by omega), setR_ne (by omega)]
      exact (r8 j hj).2 z
theorem in01 {x : Int32} : inB x (nI 0) (nI 1) → ∃ j, j < 2 ∧ x = nI j := fun h => by
  obtain ⟨j, -, h2, e⟩ := inB_i (by decide) (by decide) h
  exact ⟨j, by omega, e⟩
theorem pair_keep {x : Int32} (hL : LVs X) (hv4 : Lv X 4 0) (R : Rel σ) : Con X l yX3_keep cX3_keep 2 (some .int) 3 [.ref (adr X 0 0 0), .int x] σ (Q1 X l yX4_keep cX4_keep 2 1 [.int x]) := by
  have R0 := R
  obtain ⟨r1, ⟨r2, r3⟩, ⟨r4, r5, r6⟩, r7, r8, ⟨r9, r10, r11⟩, r12, ⟨r13, r14, r15⟩, r16⟩ := R
  refine k_X3_keep hL (fun hB => ⟨-1, rfl, con_m (k_X4_keep hv4 (fun _ => q2m R0 _) (fun j hj e => absurd e (hB j hj)))⟩) (fun j hj e => ?_)
  refine ⟨_, rfl, con_m (k_X4_keep hv4 (fun q => absurd (by rw [e]; exact inB_of (by omega) (by omega) (by omega)) q) (fun j' hj' e' => ?_))⟩
  have q1 : j' = j := i_inj (by omega) (by omega) e e'
  subst q1
  have eM : setR (setR σ 1 (10 + j') (σ 1 0)) 0 0 (up2 (σ 0 0) 2 j' (nI 1)) 4 0 = σ 4 0 := rfl
  rw [eM]
  refine ⟨by rw [RL_1 r1.1], ?_⟩
  have l0 : ∀ r, ¬ r = 10 + j' → setR (setR (setR σ 1 (10 + j') (σ 1 0)) 0 0 (up2 (σ 0 0) 2 j' (nI 1))) 4 0 (up1 (up2 (up1 (σ 4 0) 5 (va_cpy (σ 4 0 1) (σ 4 0 5) 0 (127 * j') 127)) 6 j' (nI 1)) 1 (σ 4 0 1)) 1 r = σ 1 r := fun r hr => by
    rw [setR_ne (by omega), setR_ne (by omega), setR_ne (by omega)]
  have l1 : setR (setR (setR σ 1 (10 + j') (σ 1 0)) 0 0 (up2 (σ 0 0) 2 j' (nI 1))) 4 0 (up1 (up2 (up1 (σ 4 0) 5 (va_cpy (σ 4 0 1) (σ 4 0 5) 0 (127 * j') 127)) 6 j' (nI 1)) 1 (σ 4 0 1)) 1 (10 + j') = σ 1 0 := by
    rw [setR_ne (by omega), setR_ne (by omega), setR_self]
  refine Rel_of (nx := nX σ) (kn := kN σ) (sn := sN σ) (tl := tL σ) ?_ r2 r3 r4 r5 r6 ?_ ?_ r9 r10 r11 r12 r13 r14 r15 r16
  · rw [l0 0 (by omega)]
    exact r1
  · exact HR_cg r7 (fun k hk => l0 (2 + k) (by omega))
  · intro i hi
    show upd (σ 0 0 2) j' (nI 1) i = upd (σ 4 0 6) j' (nI 1) i ∧ (¬ upd (σ 4 0 6) j' (nI 1) i = 0 → GD (setR (setR (setR σ 1 (10 + j') (σ 1 0)) 0 0 (up2 (σ 0 0) 2 j' (nI 1))) 4 0 (up1 (up2 (up1 (σ 4 0) 5 (va_cpy (σ 4 0 1) (σ 4 0 5) 0 (127 * j') 127)) 6 j' (nI 1)) 1 (σ 4 0 1)) 1 (10 + i)) (fun z => va_cpy (σ 4 0 1) (σ 4 0 5) 0 (127 * j') 127 (127 * i + z)))
    by_cases q : i = j'
    · subst q
      rw [upd_eq, upd_eq, l1]
      refine ⟨rfl, fun _ => GD_ext r1 (fun z hz => ?_)⟩
      rw [cpy_at hz, Nat.zero_add]
    · rw [upd_ne q, upd_ne q, l0 (10 + i) (by omega)]
      refine ⟨(r8 i hi).1, fun w => GD_ext ((r8 i hi).2 w) (fun z hz => ?_)⟩
      exact cpy_ne (by omega)
theorem pair_back {x : Int32} (hL : LVs X) (hv4 : Lv X 4 0) (R : Rel σ) : Con X l yX3_back cX3_back 2 (some .int) 3 [.ref (adr X 0 0 0), .int x] σ (Q1 X l yX4_back cX4_back 2 1 [.int x]) := by
  have R0 := R
  obtain ⟨r1, ⟨r2, r3⟩, ⟨r4, r5, r6⟩, r7, r8, ⟨r9, r10, r11⟩, r12, ⟨r13, r14, r15⟩, r16⟩ := R
  refine k_X3_back hL (fun hB => ⟨-1, rfl, con_m (k_X4_back hv4 (fun _ => q2m R0 _) (fun j hj e _ => absurd e (hB j hj)) (fun j hj e _ => absurd e (hB j hj)))⟩) (fun j hj e h0 => ?_) (fun j hj e h0 => ?_)
  · refine ⟨-2, rfl, con_m (k_X4_back hv4 (fun q => absurd (by rw [e]; exact inB_of (by omega) (by omega) (by omega)) q) (fun _ _ _ _ => q2m R0 _) (fun j' hj' e' q => ?_))⟩
    have q1 : j' = j := i_inj (by omega) (by omega) e e'
    subst q1
    exact absurd ((r8 j' hj).1.symm.trans h0) q
  · have eM : setR (setR σ 1 0 (σ 1 (10 + j))) 2 0 (up2 (σ 2 0) 0 2 (nI 0)) 4 0 = σ 4 0 := rfl
    have g := (r8 j hj).2 (fun z => h0 ((r8 j hj).1.trans z))
    have ec : ∀ i, i < 127 → va_cpy (σ 4 0 5) (σ 4 0 1) (127 * j) 0 127 i = σ 4 0 5 (127 * j + i) := fun i hi => by
      have := cpy_at (f := σ 4 0 5) (g := σ 4 0 1) (i := 127 * j) (j := 0) hi
      rw [Nat.zero_add] at this
      exact this
    refine ⟨_, rfl, con_m (k_X4_back hv4 (fun q => absurd (by rw [e]; exact inB_of (by omega) (by omega) (by omega)) q) (fun j' hj' e' q => ?_) (fun j' hj' e' _ => ?_))⟩
    · have q1 : j' = j := i_inj (by omega) (by omega) e e'
      subst q1
      exact absurd ((r8 j' hj).1.trans q) h0
    · have q1 : j' = j := i_inj (by omega) (by omega) e e'
      subst q1
      rw [eM]
      refine ⟨?_, ?_⟩
      · rw [ec 1 (by decide)]
        exact congrArg (fun z => some (Value.int z)) (RL_1 g.1)
      · refine Rel_of (nx := nX σ) (kn := 0) (sn := sN σ) (tl := tL σ) (GD_ext g ec) r2 r3 rfl (by omega) rfl (fun i hi => absurd hi (Nat.not_lt_zero _)) ?_ r9 r10 r11 r12 r13 r14 r15 r16
        intro i hi
        refine ⟨(r8 i hi).1, fun z => ?_⟩
        show GD (setR _ 4 0 _ 1 (10 + i)) _
        rw [setR_ne (by omega), setR_ne (by omega), setR_ne (by omega)]
        exact (r8 i hi).2 z
theorem nar_c : ∀ j, j < 256 → vp_nar .char ((nI j).toUInt32 % 65536).toInt32 = nI j := by decide +kernel
theorem pair_type {x : Int32} (hL : LVs X) (hv4 : Lv X 4 0) (R : Rel σ) : Con X l yX3_type cX3_type 2 (some .int) 2 [.ref (adr X 0 0 0), .int x] σ (Q1 X l yX4_type cX4_type 2 1 [.int x]) := by
  have R0 := R
  obtain ⟨r1, ⟨r2, r3⟩, ⟨r4, r5, r6⟩, r7, r8, ⟨r9, r10, r11⟩, r12, ⟨r13, r14, r15⟩, r16⟩ := R
  have hC : (¬ x < 0 ∧ x ≤ nI 255) ↔ inB x (nI 0) (nI 255) := by rw [in0, Int32.not_lt (a := nI 255) (b := x)]
  refine k_X3_type hL R0.cw (fun hB => ⟨-1, rfl, con_m0 (K := 4) (r := 0) (k_X4_type hv4 r15 r14 (fun _ => q2i R0 _) (fun q _ => absurd (hC.mpr q) hB) (fun q _ => absurd (hC.mpr q) hB))⟩) (fun h1 h2 => ⟨-3, rfl, con_m0 (K := 4) (r := 0) (k_X4_type hv4 r15 r14 (fun q => absurd (hC.mp h1) q) (fun _ _ => q2i R0 _) (fun _ q => absurd q h2))⟩) (fun h1 h2 => ?_)
  obtain ⟨j, -, hj, ej⟩ := inB_i (by decide) (by decide) (hC.mp h1)
  subst ej
  refine ⟨_, rfl, con_m0 (K := 4) (r := 0) (k_X4_type (n := tL σ) hv4 r15 r14 (fun q => absurd (hC.mp h1) q) (fun _ q => absurd h2 q) (fun _ _ => ⟨rfl, ?_⟩))⟩
  rw [nar_c j (by omega)]
  refine Rel_of (nx := nX σ) (kn := kN σ) (sn := sN σ) (tl := tL σ + 1) r1 r2 r3 r4 r5 r6 ?_ ?_ r9 r10 r11 r12 rfl (by omega) rfl ?_
  · exact HR_cg r7 (fun k _ => by
      show setR _ 4 0 _ 1 (2 + k) = _
      rw [setR_ne (by omega), setR_ne (by omega)])
  · intro i hi
    refine ⟨(r8 i hi).1, fun z => ?_⟩
    show GD (setR _ 4 0 _ 1 (10 + i)) _
    rw [setR_ne (by omega), setR_ne (by omega)]
    exact (r8 i hi).2 z
  · show upd (σ 3 0 1) (tL σ) (nI j) = upd (σ 4 0 7) (tL σ) (nI j)
    rw [r16]
theorem Rel_clr (R : Rel σ) : Rel (setR (setR σ 3 0 (up2 (σ 3 0) 0 1 (nI 0))) 4 0 (up2 (σ 4 0) 0 8 (nI 0))) := by
  obtain ⟨r1, ⟨r2, r3⟩, ⟨r4, r5, r6⟩, r7, r8, ⟨r9, r10, r11⟩, r12, ⟨r13, r14, r15⟩, r16⟩ := R
  refine Rel_of (nx := nX σ) (kn := kN σ) (sn := sN σ) (tl := 0) r1 r2 r3 r4 r5 r6 ?_ ?_ r9 r10 r11 r12 rfl (by omega) rfl r16
  · exact HR_cg r7 (fun k _ => by
      show setR _ 4 0 _ 1 (2 + k) = _
      rw [setR_ne (by omega), setR_ne (by omega)])
  · intro i hi
    refine ⟨(r8 i hi).1, fun z => ?_⟩
    show GD (setR _ 4 0 _ 1 (10 + i)) _
    rw [setR_ne (by omega), setR_ne (by omega)]
    exact (r8 i hi).2 z
theorem pair_clear (hL : LVs X) (hv4 : Lv X 4 0) (R : Rel σ) : Con X l yX3_clear cX3_clear 1 (some .int) 1 [.ref (adr X 0 0 0)] σ (Q1 X l yX4_clear cX4_clear 2 0 []) := by
  refine con_q ?_ (k_X3_clear hL)
  rintro r u ⟨rfl, rfl⟩
  refine ⟨_, rfl, con_m0 (K := 4) (r := 0) (con_q ?_ (k_X4_clear hv4))⟩
  rintro r u ⟨rfl, rfl⟩
  refine ⟨?_, Rel_clr R⟩
  show some (Value.int (σ 4 0 0 8)) = some (Value.int (σ 3 0 0 1))
  rw [R.2.2.2.2.2.2.2.1.1, R.2.2.2.2.2.2.2.1.2.2]
theorem ft_keep {len : Nat} : ∀ (fuel : Nat) (t : Rg) (f p : Nat), (ftS len fuel t f p).1 0 = t 0 ∧ (ftS len fuel t f p).1 1 = t 1
  | 0, t, f, p => ⟨rfl, rfl⟩
  | n + 1, t, f, p => by
    rw [ftS]
    split
    · split
      · exact ft_keep n t f (p + 1)
      · obtain ⟨h1, h2⟩ := ft_keep n (tkU (up2 t 3 f (nI p)) len f p) (f + 1) (tkE (t 1) len p)
        rw [h1, h2, tkU_0, tkU_1]
        exact ⟨up2_ne (by decide), up2_ne (by decide)⟩
    · exact ⟨rfl, rfl⟩
theorem fin_0 (t : Rg) (len : Nat) : finS t len 0 = t 0 := by
  unfold finS
  rw [up2_ne (by decide), up2_ne (by decide)]
  exact (ft_keep _ _ _ _).1
theorem fin_1 (t : Rg) (len : Nat) : finS t len 1 = t 1 := by
  unfold finS
  rw [up2_ne (by decide), up2_ne (by decide)]
  exact (ft_keep _ _ _ _).2
/-- behind the text's reading -/
theorem Rel_par (R : Rel σ) (n : Nat) (g : Rg) : Rel (setR (setR (setR σ 1 1 g) 3 0 (tk (finS (σ 3 0) (tL σ)) n)) 4 0 (teN (σ 4 0) (tL σ))) := by
  refine Rel_cg R rfl (fun _ _ => rfl) rfl (fun r hr => ?_) ⟨rfl, rfl⟩ ?_ ?_ ⟨?_, ?_, ?_⟩ (fun k hk => ?_)
  · rw [setR_ne (by omega), setR_ne (by omega), setR_ne (by omega)]
  · show upd (finS (σ 3 0) (tL σ) 0) 5 (nI n) 1 = _
    rw [upd_ne (by decide), fin_0]
  · show finS (σ 3 0) (tL σ) 1 = _
    exact fin_1 _ _
  · exact teN_0 (j := 4) (Or.inl (by decide)) (by decide)
  · exact teN_0 (j := 8) (Or.inl (by decide)) (by decide)
  · exact teN_0 (j := 15) (Or.inr (by decide)) (by decide)
  · rw [setR_self]
    exact teN_k (by omega) (by omega)
theorem rem_r {tau : Hp} {nx kn r : Nat} (hr : 2 ≤ r) : remS tau nx kn 1 r = if r = 2 + nx then tau 1 0 else tau 1 r := by
  unfold remS
  rw [setR_ne (by omega)]
  by_cases q : r = 2 + nx
  · rw [if_pos q, q, setR_self]
  · rw [if_neg q, setR_ne (by omega)]
theorem Rel_tel {tau : Hp} {h' M T3 : Rg} {m' g2 : Nat → Int32} {nx kn : Nat} (en : nX tau = nx) (ek : kN tau = kn) (e3 : tau 3 0 = T3) (R : Rel (setR tau 4 0 M)) (G : GD h' m') : Rel (setR (setR (setR (remS tau nx kn) 1 0 h') 3 0 (up2 T3 0 1 (nI 0))) 4 0 (up2 (up1 (up1 (up1 (svR M (M 1) kn) 1 (M 1)) 2 g2) 1 m') 0 8 (nI 0))) := by
  subst en ek e3
  have R2 := Rel_clr (Rel_do R G)
  refine Rel_cg R2 rfl (fun _ _ => rfl) rfl (fun r hr => ?_) ⟨rfl, rfl⟩ rfl rfl ⟨rfl, rfl, rfl⟩ (fun k hk => ?_)
  · have ex : nX (setR tau 4 0 M) = nX tau := rfl
    unfold doS
    refine (setR_ne (by omega)).trans ((setR_ne (by omega)).trans ((setR_ne (by omega)).trans ?_))
    refine Eq.trans ?_ ((setR_ne (by omega)).trans ((setR_ne (by omega)).trans ((setR_ne (by omega)).trans (setR_ne (by omega))))).symm
    rw [rem_r hr, rem_r hr, ex]
    by_cases q : r = 2 + nX tau
    · rw [if_pos q, if_pos q]
      rfl
    · rw [if_neg q, if_neg q, setR_ne (by omega)]
  · rw [setR_self, setR_self, setR_self]
    show up2 (up1 (up1 (up1 (svR M (M 1) (kN tau)) 1 (M 1)) 2 g2) 1 m') 0 8 (nI 0) k = up2 (up1 (svR M (M 1) (kN tau)) 1 m') 0 8 (nI 0) k
    rw [up2_ne (by omega), up2_ne (by omega)]
    by_cases q : k = 1
    · rw [q, up1_same, up1_same]
    · rw [up1_ne q, up1_ne q, up1_ne (by omega), up1_ne q]
theorem neg9 {s : Nat} (hs : s ≤ 80) : ¬ nI s = -9 := fun e => by
  have := nI_pos (n := s) (by omega)
  rw [e] at this
  exact this (by decide)
theorem m10 : ∀ s, s < 81 → ¬ (0 : Int32) ≤ -10 - nI s := by decide +kernel
theorem pair_tells (hL : LVs X) (hv4 : Lv X 4 0) (R : Rel σ) : Con X l yX3_tells cX3_tells 2 (some .int) 9 [.ref (adr X 0 0 0)] σ (Q1 X l yX4_tells cX4_tells 2 7 []) := by
  have hl := R.2.2.2.2.2.2.2.1.2.1
  have e15 := R.2.2.2.2.2.2.2.1.2.2
  have e6 := R.2.2.1.2.2
  have e5 := R.2.2.1.2.1
  have key := tell_eq (σ := σ) (h := σ 4 0) R.2.2.2.2.2.2.2.2.symm hl
  refine k_X3_tells hL R.cw (fun hF => ?_) (fun hO => ?_)
  · have eM : tel1 σ 4 0 = σ 4 0 := rfl
    rcases key with ⟨-, K, hK, k1, -⟩ | ⟨s, hs, k1, k2⟩
    · exact absurd (by rw [k1]; exact nI_pos' (by omega)) hF
    · refine ⟨_, rfl, con_m (k_X4_tells (n := kN σ) (len := tL σ) hv4 e6 e5 e15 hl (fun _ => ?_) (fun q => ?_))⟩
      · rw [up1_id, eM, k1, k2]
        exact ⟨rfl, Rel_par R _ _⟩
      · rw [up1_id, eM, k2] at q
        exact absurd q (neg9 hs)
  · have eM : tel2 σ 4 0 = σ 4 0 := rfl
    rcases key with ⟨k0, K, hK, k1, k2, k3⟩ | ⟨s, hs, k1, k2⟩
    · refine ⟨_, rfl, con_m (k_X4_tells (n := kN σ) (len := tL σ) hv4 e6 e5 e15 hl (fun q => ?_) (fun _ => ?_))⟩
      · rw [up1_id, eM] at q
        exact absurd k0 q
      · rw [up1_id, eM, k1, k2]
        refine ⟨rfl, ?_⟩
        have e1 : teN (σ 4 0) (tL σ) 1 = σ 4 0 1 := teN_k (by decide) (by decide)
        have G := GD_ext (n := va_cpy (sbA (teN (σ 4 0) (tL σ) 2) (mC (teN (σ 4 0) (tL σ) 2))) (σ 4 0 1) 0 0 127) k3 (fun i hi => by
          have := cpy_at (f := sbA (teN (σ 4 0) (tL σ) 2) (mC (teN (σ 4 0) (tL σ) 2))) (g := σ 4 0 1) (i := 0) (j := 0) hi
          rw [Nat.zero_add] at this
          exact this)
        have R3 := Rel_tel (tau := tel1 σ) (M := teN (σ 4 0) (tL σ)) (g2 := sbA (teN (σ 4 0) (tL σ) 2) (mC (teN (σ 4 0) (tL σ) 2))) (nx := nX σ) (kn := kN σ) (T3 := tk (finS (σ 3 0) (tL σ)) (prS σ).2.1) rfl rfl rfl (Rel_par R (prS σ).2.1 (prS σ).2.2) G
        rw [e1] at R3
        exact R3
    · exact absurd hO (by rw [k1]; exact m10 s (by omega))
end PAIRS3
