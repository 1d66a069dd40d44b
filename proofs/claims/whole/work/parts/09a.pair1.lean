/-! ===== the two worlds together ===== -/
/-- the history's ring, and the model's row -/
def HR (H : Nat → Rg) (mh : Nat → Int32) (nx kn : Nat) : Prop := ∀ i, i < kn → GD (H ((nx + 8 - kn + i) % 8)) (fun j => mh (127 * i + j))
def IR (kp mk : Nat → Int32) (H : Nat → Rg) (mi : Nat → Int32) : Prop := ∀ j, j < 2 → kp j = mk j ∧ (¬ mk j = 0 → GD (H j) (fun i => mi (127 * j + i)))
def Rel (σ : Hp) : Prop := GD (σ 1 0) (σ 4 0 1) ∧ (σ 2 0 0 1 = nI (nX σ) ∧ nX σ < 8) ∧ (σ 2 0 0 2 = nI (kN σ) ∧ kN σ ≤ 8 ∧ σ 4 0 0 4 = nI (kN σ)) ∧ HR (fun k => σ 1 (2 + k)) (σ 4 0 4) (nX σ) (kN σ) ∧ IR (σ 0 0 2) (σ 4 0 6) (fun j => σ 1 (10 + j)) (σ 4 0 5) ∧ (σ 0 0 0 8 = nI (sN σ) ∧ sN σ ≤ 6 ∧ σ 4 0 0 15 = nI (sN σ)) ∧ FR (σ 0 0 3) (σ 0 0 4) (σ 4 0 8) (σ 4 0 9) (sN σ) ∧ (σ 3 0 0 1 = nI (tL σ) ∧ tL σ ≤ 80 ∧ σ 4 0 0 8 = nI (tL σ)) ∧ σ 3 0 1 = σ 4 0 7
/-- by numbers that are known otherwise -/
theorem Rel_of {σ : Hp} {nx kn sn tl : Nat} (h1 : GD (σ 1 0) (σ 4 0 1)) (h2 : σ 2 0 0 1 = nI nx) (h3 : nx < 8) (h4 : σ 2 0 0 2 = nI kn) (h5 : kn ≤ 8) (h6 : σ 4 0 0 4 = nI kn) (h7 : HR (fun k => σ 1 (2 + k)) (σ 4 0 4) nx kn) (h8 : IR (σ 0 0 2) (σ 4 0 6) (fun j => σ 1 (10 + j)) (σ 4 0 5)) (h9 : σ 0 0 0 8 = nI sn) (h10 : sn ≤ 6) (h11 : σ 4 0 0 15 = nI sn) (h12 : FR (σ 0 0 3) (σ 0 0 4) (σ 4 0 8) (σ 4 0 9) sn) (h13 : σ 3 0 0 1 = nI tl) (h14 : tl ≤ 80) (h15 : σ 4 0 0 8 = nI tl) (h16 : σ 3 0 1 = σ 4 0 7) : Rel σ := by
  have e1 : nX σ = nx := by unfold nX; rw [h2]; exact nI_clamp (by omega)
  have e2 : kN σ = kn := by unfold kN; rw [h4]; exact nI_clamp (by omega)
  have e3 : sN σ = sn := by unfold sN; rw [h9]; exact nI_clamp (by omega)
  have e4 : tL σ = tl := by unfold tL; rw [h13]; exact nI_clamp (by omega)
  unfold Rel
  rw [e1, e2, e3, e4]
  exact ⟨h1, ⟨h2, h3⟩, ⟨h4, h5, h6⟩, h7, h8, ⟨h9, h10, h11⟩, h12, ⟨h13, h14, h15⟩, h16⟩
theorem Rel.cw {σ : Hp} (R : Rel σ) : CW σ := ⟨R.1.1.1, R.2.1, ⟨R.2.2.1.1, R.2.2.1.2.1⟩, ⟨R.2.2.2.2.2.2.2.1.1, R.2.2.2.2.2.2.2.1.2.1⟩, ⟨R.2.2.2.2.2.1.1, R.2.2.2.2.2.1.2.1⟩⟩
theorem HR_cg {H H' : Nat → Rg} {mh : Nat → Int32} {nx kn : Nat} (h : HR H mh nx kn) (e : ∀ k, k < 8 → H' k = H k) : HR H' mh nx kn := fun i hi => by
  rw [e _ (Nat.mod_lt _ (by decide))]
  exact h i hi
/-- what save leaves in the row -/
theorem sv_at {H m : Nat → Int32} {n i j : Nat} (hn : n ≤ 8) (hi : i < sv1 n + 1) (hj : j < 127) : va_cpy m (if n = 8 then shT H 889 else H) 0 (127 * sv1 n) 127 (127 * i + j) = if i = sv1 n then m j else if n = 8 then H (127 * (i + 1) + j) else H (127 * i + j) := by
  by_cases e : i = sv1 n
  · rw [if_pos e, e, cpy_at hj, Nat.zero_add]
  · rw [if_neg e, cpy_ne (by omega)]
    by_cases q : n = 8
    · rw [if_pos q, if_pos q]
      unfold shT
      have : sv1 n = 7 := by unfold sv1; rw [if_pos q]
      rw [if_pos (by omega), show 127 * i + j + 127 = 127 * (i + 1) + j by omega]
    · rw [if_neg q, if_neg q]
/-- remembered, in both -/
theorem HR_rem {H : Nat → Rg} {mh m : Nat → Int32} {h : Rg} {nx kn : Nat} (hx : nx < 8) (hk : kn ≤ 8) (G : GD h m) (R : HR H mh nx kn) : HR (fun k => if k = nx then h else H k) (va_cpy m (if kn = 8 then shT mh 889 else mh) 0 (127 * sv1 kn) 127) (if nx + 1 < 8 then nx + 1 else 0) (sv1 kn + 1) := by
  have hs : sv1 kn = if kn = 8 then 7 else kn := rfl
  intro i hi
  by_cases e : i = sv1 kn
  · have ei : ((if nx + 1 < 8 then nx + 1 else 0) + 8 - (sv1 kn + 1) + i) % 8 = nx := by split <;> (split at hs <;> omega)
    rw [ei]
    show GD (if nx = nx then h else H nx) _
    rw [if_pos rfl]
    exact GD_ext G (fun j hj => by rw [sv_at hk hi hj, if_pos e])
  · have ei : ((if nx + 1 < 8 then nx + 1 else 0) + 8 - (sv1 kn + 1) + i) % 8 = (nx + 8 - kn + (if kn = 8 then i + 1 else i)) % 8 ∧ ¬ (nx + 8 - kn + (if kn = 8 then i + 1 else i)) % 8 = nx := by
      by_cases q : kn = 8
      · rw [if_pos q] at hs ⊢
        split <;> omega
      · rw [if_neg q] at hs ⊢
        split <;> omega
    rw [ei.1]
    show GD (if (nx + 8 - kn + (if kn = 8 then i + 1 else i)) % 8 = nx then h else H ((nx + 8 - kn + (if kn = 8 then i + 1 else i)) % 8)) _
    rw [if_neg ei.2]
    have hlt : (if kn = 8 then i + 1 else i) < kn := by
      by_cases q : kn = 8
      · rw [if_pos q] at hs ⊢; omega
      · rw [if_neg q] at hs ⊢; omega
    refine GD_ext (R _ hlt) (fun j hj => ?_)
    rw [sv_at hk hi hj, if_neg e]
    by_cases q : kn = 8
    · rw [if_pos q, if_pos q]
    · rw [if_neg q, if_neg q]
/-- undone, in both -/
theorem HR_res {H : Nat → Rg} {mh : Nat → Int32} {nx kn : Nat} (hx : nx < 8) (hk : kn ≤ 8) (h0 : 0 < kn) (R : HR H mh nx kn) : HR H mh (prv nx) (kn - 1) ∧ GD (H (prv nx)) (fun j => mh (127 * (kn - 1) + j)) := by
  have hp : prv nx = if 0 < nx then nx - 1 else 7 := rfl
  refine ⟨fun i hi => ?_, ?_⟩
  · have e : (prv nx + 8 - (kn - 1) + i) % 8 = (nx + 8 - kn + i) % 8 := by split at hp <;> omega
    rw [e]
    exact R i (by omega)
  · have e : (nx + 8 - kn + (kn - 1)) % 8 = prv nx := by split at hp <;> omega
    have := R (kn - 1) (by omega)
    rw [e] at this
    exact this
theorem prv_lt {nx : Nat} (hx : nx < 8) : prv nx < 8 := by unfold prv; split <;> omega
section PAIRS
variable {X : Cx} {l : Launch} {σ : Hp}
/-- the model's answer is this, the worlds stay together -/
def Q2 (x : Int32) : Option Value → Hp → Prop := fun r u => r = some (.int x) ∧ Rel u
/-- an answer, with which the model's agrees -/
def Q1 (X : Cx) (l : Launch) (y2 : MethodName) (c2 : ByteArray) (n2 d2 : Nat) (As : List Value) : Option Value → Hp → Prop := fun r u => ∃ x, r = some (.int x) ∧ Con X l y2 c2 n2 (some .int) d2 (.ref (adr X 4 0 0) :: As) u (Q2 x)
theorem m_id (u : Hp) : setR u 4 0 (up1 (u 4 0) 1 (u 4 0 1)) = u := by rw [up1_id, setR_id]
theorem con_m {y : MethodName} {cc : ByteArray} {nL : Nat} {ret : Option FieldType} {d : Nat} {As : List Value} {u : Hp} {Q : Option Value → Hp → Prop} (h : Con X l y cc nL ret d As (setR u 4 0 (up1 (u 4 0) 1 (u 4 0 1))) Q) : Con X l y cc nL ret d As u Q := by
  rw [m_id] at h
  exact h
theorem q2m {u : Hp} (R : Rel u) (x : Int32) : Q2 x (some (.int x)) (setR u 4 0 (up1 (u 4 0) 1 (u 4 0 1))) := ⟨rfl, by rw [m_id]; exact R⟩
theorem ic_eq {h : Rg} {m : Nat → Int32} (R : Rlm h m) (c : Int32) : isCp h c ↔ icM m c := by
  constructor
  · intro q
    obtain ⟨i, hi, rfl⟩ := isCp_i R.1 q
    exact icM_of (RL_Wm R) (by rw [RL_C R]; exact hi)
  · intro q
    obtain ⟨i, hi, rfl⟩ := icM_i (RL_Wm R) q
    exact isCp_of R.1 (by rw [← RL_C R]; exact hi)
theorem ap_eq {h : Rg} {m : Nat → Int32} (R : Rlm h m) (a c : Int32) : arP h a c ↔ apM m a c := by
  unfold arP apM
  rw [ic_eq R, ic_eq R]
/-- a deed done by both -/
theorem Rel_do {h' : Rg} {m' : Nat → Int32} (R : Rel σ) (G : GD h' m') : Rel (setR (doS σ h') 4 0 (up1 (svR (doS σ h' 4 0) (doS σ h' 4 0 1) (kN σ)) 1 m')) := by
  obtain ⟨r1, ⟨r2, r3⟩, ⟨r4, r5, r6⟩, r7, r8, ⟨r9, r10, r11⟩, r12, ⟨r13, r14, r15⟩, r16⟩ := R
  have eM : doS σ h' 4 0 = σ 4 0 := rfl
  rw [eM]
  have hs : sv1 (kN σ) = if kN σ = 8 then 7 else kN σ := rfl
  have l1 : ∀ k, k < 8 → setR (doS σ h') 4 0 (up1 (svR (σ 4 0) (σ 4 0 1) (kN σ)) 1 m') 1 (2 + k) = if k = nX σ then σ 1 0 else σ 1 (2 + k) := by
    intro k hk
    rw [setR_ne (by omega)]
    unfold doS remS
    rw [setR_ne (by omega), setR_ne (by omega)]
    by_cases e : k = nX σ
    · rw [if_pos e, e, setR_self]
    · rw [if_neg e, setR_ne (by omega)]
  have l2 : ∀ j, setR (doS σ h') 4 0 (up1 (svR (σ 4 0) (σ 4 0 1) (kN σ)) 1 m') 1 (10 + j) = σ 1 (10 + j) := by
    intro j
    rw [setR_ne (by omega)]
    unfold doS remS
    rw [setR_ne (by omega), setR_ne (by omega), setR_ne (by omega)]
  have l3 : setR (doS σ h') 4 0 (up1 (svR (σ 4 0) (σ 4 0 1) (kN σ)) 1 m') 1 0 = h' := by
    rw [setR_ne (by omega)]
    unfold doS
    rw [setR_self]
  have e8 : (if nI 8 < nI (kN σ + 1) then nI 8 else nI (kN σ + 1)) = nI (sv1 (kN σ) + 1) := by
    rw [hs]
    by_cases q : kN σ = 8
    · rw [q]; decide
    · rw [if_neg q, if_neg (nI_nlt (by omega) (by omega))]
  refine Rel_of (nx := if nX σ + 1 < 8 then nX σ + 1 else 0) (kn := sv1 (kN σ) + 1) (sn := sN σ) (tl := tL σ) (by rw [l3]; exact G) rfl (by split <;> omega) e8 (by rw [hs]; split <;> omega) rfl ?_ ?_ r9 r10 r11 r12 r13 r14 r15 r16
  · exact HR_cg (HR_rem r3 r5 r1 r7) (fun k hk => l1 k hk)
  · intro j hj
    obtain ⟨q1, q2⟩ := r8 j hj
    refine ⟨q1, fun z => ?_⟩
    show GD (setR (doS σ h') 4 0 (up1 (svR (σ 4 0) (σ 4 0 1) (kN σ)) 1 m') 1 (10 + j)) _
    rw [l2]
    exact q2 z
theorem do_4 {σ : Hp} {h' : Rg} : doS σ h' 4 0 = σ 4 0 := rfl
theorem inB_e {x a b : Int32} : inB x a b ↔ (¬ x < a ∧ x ≤ b) := by
  unfold inB
  rw [Int32.not_lt (a := b)]
theorem i_inj {i j : Nat} (hi : i < 1000) (hj : j < 1000) {x : Int32} (h1 : x = nI i) (h2 : x = nI j) : j = i := (nI_eq (by omega) (by omega)).mp (h2.symm.trans h1)
theorem pair_accepts {c w : Int32} (hL : LVs X) (hv4 : Lv X 4 0) (R : Rel σ) : Con X l yX3_accepts cX3_accepts 3 (some .int) 6 [.ref (adr X 0 0 0), .int c, .int w] σ (Q1 X l yX4_accepts cX4_accepts 6 4 [.int c, .int w]) := by
  have G := R.1
  have hC : (isCp (σ 1 0) c ∧ ¬ w < nI 1 ∧ w ≤ nI 9) ↔ (icM (σ 4 0 1) c ∧ inB w (nI 1) (nI 9)) := by rw [ic_eq G.1, inB_e]
  have hc4 := G.1.1.2.2.1
  have eC := RL_C G.1
  refine k_X3_accepts hL R.cw (fun hB => ⟨-1, rfl, con_m (k_X4_accepts hv4 (RL_Wm G.1) R.2.2.1.2.2 R.2.2.1.2.1 (fun _ => q2m R _) (fun q _ => absurd (hC.mpr q) hB) (fun i hi e q _ => absurd (hC.mpr ⟨by rw [e]; exact icM_of (RL_Wm G.1) hi, q⟩) hB))⟩) (fun h1 h2 => ⟨-3, rfl, con_m (k_X4_accepts hv4 (RL_Wm G.1) R.2.2.1.2.2 R.2.2.1.2.1 (fun q => absurd (hC.mp h1) q) (fun _ _ => q2m R _) (fun i hi e q hm => absurd (by rw [← RL_W G.1]; exact hm) h2))⟩) (fun i hi e h1 h2 hm => ?_)
  have hc1 : isCp (σ 1 0) c ∧ ¬ w < nI 1 ∧ w ≤ nI 9 := ⟨by rw [e]; exact isCp_of G.1.1 hi, h1, h2⟩
  obtain ⟨k, hk1, hk2, ek⟩ := inB_i (by decide) (by decide) (hC.mp hc1).2
  subst ek
  obtain ⟨g1, g2⟩ := GD_acc G hi hk2 hm
  refine ⟨_, rfl, con_m (k_X4_accepts (n := kN σ) hv4 (by rw [do_4]; exact RL_Wm G.1) R.2.2.1.2.2 R.2.2.1.2.1 (fun q => absurd (hC.mp hc1) q) (fun _ q => absurd (by rw [do_4, RL_W G.1]; exact hm) q) (fun i' hi' e' _ _ => ?_))⟩
  rw [do_4] at hi' ⊢
  have : i' = i := i_inj (by omega) (by omega) e e'
  subst this
  exact ⟨by rw [g2], Rel_do R g1⟩
end PAIRS
