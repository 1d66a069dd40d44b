/-! ===== how many bits ===== -/
def tn (x : Int32) : Nat := x.toBitVec.toNat
theorem tn_and (x y : Int32) : tn (x &&& y) = tn x &&& tn y := by unfold tn; rw [Int32.toBitVec_and, BitVec.toNat_and]
theorem tn_add (x y : Int32) : tn (x + y) = (tn x + tn y) % 2 ^ 32 := by unfold tn; rw [Int32.toBitVec_add, BitVec.toNat_add]
theorem tn_sub (x y : Int32) : tn (x - y) = (2 ^ 32 - tn y + tn x) % 2 ^ 32 := by unfold tn; rw [Int32.toBitVec_sub, BitVec.toNat_sub]
theorem tn_inj {x y : Int32} (h : tn x = tn y) : x = y := Int32.toBitVec_inj.mp (BitVec.eq_of_toNat_eq h)
theorem tn_nI {n : Nat} (h : n < 2 ^ 32) : tn (nI n) = n := by
  show (BitVec.ofNat 32 n).toNat = n
  rw [BitVec.toNat_ofNat, Nat.mod_eq_of_lt h]
theorem tn_shr (x : Int32) (k : Nat) (hk : (((nI k).toUInt32 &&& Int32.toUInt32 31).toBitVec % 32#32).toNat = k) : tn (x.toUInt32 >>> ((nI k).toUInt32 &&& Int32.toUInt32 31)).toInt32 = tn x / 2 ^ k := by
  show ((x.toUInt32 >>> ((nI k).toUInt32 &&& Int32.toUInt32 31)).toBitVec).toNat = _
  rw [UInt32.toBitVec_shiftRight, BitVec.ushiftRight_eq', BitVec.toNat_ushiftRight, Nat.shiftRight_eq_div_pow]
  exact congrArg (fun z => tn x / 2 ^ z) hk
def pF (B : Nat) : Nat := (B / 2) &&& 85
def pA (B : Nat) : Nat := B - pF B
def pC (B : Nat) : Nat := (pA B &&& 51) + ((pA B / 4) &&& 51)
def pP (B : Nat) : Nat := (pC B + pC B / 16) &&& 15
theorem pF_le : ∀ B, B < 256 → pF B ≤ B := by decide +kernel
theorem pF_r : ∀ B, B < 256 → ∀ r, r < 2 → (B / 2 + 128 * r) &&& 85 = pF B := by decide +kernel
theorem pA_lt : ∀ B, B < 256 → pA B < 256 := by decide +kernel
theorem pC_r : ∀ B, B < 256 → ∀ r, r < 4 → (pA B &&& 51) + ((pA B / 4 + 64 * r) &&& 51) = pC B := by decide +kernel
theorem pA_r : ∀ B, B < 256 → ∀ r, r < 4 → (pA B / 4 + 64 * r) &&& 51 = (pA B / 4) &&& 51 := by decide +kernel
theorem pC_lt : ∀ B, B < 256 → pC B % 16 ≤ 4 ∧ pC B / 16 ≤ 4 := by decide +kernel
theorem pP_r : ∀ B, B < 256 → ∀ r, r < 5 → (pC B + pC B / 16 + 16 * r) &&& 15 = pP B := by decide +kernel
theorem pP_le : ∀ B, B < 256 → pP B ≤ 8 := by decide +kernel
theorem pP_cn : ∀ B, B < 256 → pP B = B % 2 + B / 2 % 2 + B / 4 % 2 + B / 8 % 2 + B / 16 % 2 + B / 32 % 2 + B / 64 % 2 + B / 128 % 2 := by decide +kernel
theorem and_2 {a b c d : Nat} (ha : a < 256) (hc : c < 256) : (a + 256 * b) &&& (c + 256 * d) = (a &&& c) + 256 * (b &&& d) := by
  have h1 : ((a + 256 * b) &&& (c + 256 * d)) % 2 ^ 8 = (a + 256 * b) % 2 ^ 8 &&& (c + 256 * d) % 2 ^ 8 := Nat.and_mod_two_pow
  have h2 : ((a + 256 * b) &&& (c + 256 * d)) / 2 ^ 8 = (a + 256 * b) / 2 ^ 8 &&& (c + 256 * d) / 2 ^ 8 := Nat.and_div_two_pow
  rw [show (a + 256 * b) % 2 ^ 8 = a by omega, show (c + 256 * d) % 2 ^ 8 = c by omega] at h1
  rw [show (a + 256 * b) / 2 ^ 8 = b by omega, show (c + 256 * d) / 2 ^ 8 = d by omega] at h2
  omega
theorem and_3 {a b c k : Nat} (ha : a < 256) (hb : b < 256) (hc : c < 256) (hk : k < 256) : (a + 256 * (b + 256 * c)) &&& (k + 256 * (k + 256 * (k + 256 * k))) = (a &&& k) + 256 * ((b &&& k) + 256 * (c &&& k)) := by
  rw [and_2 ha hk, and_2 hb hk]
  have := and_2 (a := c) (b := 0) (c := k) (d := k) hc hk
  rw [Nat.mul_zero, Nat.add_zero, Nat.zero_and, Nat.mul_zero, Nat.add_zero] at this
  rw [this]
theorem p_6 {p q r : Nat} (hp : p ≤ 8) (hq : q ≤ 8) (hr : r ≤ 8) : ((p + q) + 256 * ((q + r) + 256 * r) + ((p + q) + 256 * ((q + r) + 256 * r)) / 2 ^ 16) % 2 ^ 32 = (p + q + r) + 256 * ((q + r) + 256 * r) := by
  have h : ((p + q) + 256 * ((q + r) + 256 * r)) / 2 ^ 16 = r := by omega
  rw [h]
  omega
theorem pop_tn (x : Int32) (h : tn x < 2 ^ 24) : tn (popS x) = pP (tn x % 256) + pP (tn x / 256 % 256) + pP (tn x / 65536) := by
  obtain ⟨N, hN⟩ : ∃ N, tn x = N := ⟨_, rfl⟩
  rw [hN] at h ⊢
  obtain ⟨B0, e0⟩ : ∃ B, N % 256 = B := ⟨_, rfl⟩
  obtain ⟨B1, e1⟩ : ∃ B, N / 256 % 256 = B := ⟨_, rfl⟩
  obtain ⟨B2, e2⟩ : ∃ B, N / 65536 = B := ⟨_, rfl⟩
  rw [e0, e1, e2]
  have h0 : B0 < 256 := by omega
  have h1 : B1 < 256 := by omega
  have h2 : B2 < 256 := by omega
  unfold popS
  simp only []
  -- step 1
  have s1 : tn ((x.toUInt32 >>> ((nI 1).toUInt32 &&& Int32.toUInt32 31)).toInt32 &&& 1431655765) = pF B0 + 256 * (pF B1 + 256 * pF B2) := by
    rw [tn_and, tn_shr x 1 (by decide), hN, show N / 2 ^ 1 = (B0 / 2 + 128 * (B1 % 2)) + 256 * ((B1 / 2 + 128 * (B2 % 2)) + 256 * (B2 / 2 + 128 * 0)) by omega, show tn (1431655765 : Int32) = 85 + 256 * (85 + 256 * (85 + 256 * 85)) by decide, and_3 (by omega) (by omega) (by omega) (by decide), pF_r B0 h0 _ (by omega), pF_r B1 h1 _ (by omega), pF_r B2 h2 _ (by omega)]
  have l0 := pF_le B0 h0
  have l1 := pF_le B1 h1
  have l2 := pF_le B2 h2
  obtain ⟨a, ha⟩ : ∃ a, x - ((x.toUInt32 >>> ((nI 1).toUInt32 &&& Int32.toUInt32 31)).toInt32 &&& 1431655765) = a := ⟨_, rfl⟩
  have ta : tn a = pA B0 + 256 * (pA B1 + 256 * pA B2) := by
    rw [← ha, tn_sub, s1, hN]
    unfold pA
    omega
  rw [ha]
  have m0 := pA_lt B0 h0
  have m1 := pA_lt B1 h1
  have m2 := pA_lt B2 h2
  -- step 2
  have s2 : tn (a &&& 858993459) = (pA B0 &&& 51) + 256 * ((pA B1 &&& 51) + 256 * (pA B2 &&& 51)) := by
    rw [tn_and, ta, show tn (858993459 : Int32) = 51 + 256 * (51 + 256 * (51 + 256 * 51)) by decide, and_3 m0 m1 m2 (by decide)]
  have s3 : tn ((a.toUInt32 >>> ((nI 2).toUInt32 &&& Int32.toUInt32 31)).toInt32 &&& 858993459) = ((pA B0 / 4) &&& 51) + 256 * (((pA B1 / 4) &&& 51) + 256 * ((pA B2 / 4) &&& 51)) := by
    rw [tn_and, tn_shr a 2 (by decide), ta, show (pA B0 + 256 * (pA B1 + 256 * pA B2)) / 2 ^ 2 = (pA B0 / 4 + 64 * (pA B1 % 4)) + 256 * ((pA B1 / 4 + 64 * (pA B2 % 4)) + 256 * (pA B2 / 4 + 64 * 0)) by omega, show tn (858993459 : Int32) = 51 + 256 * (51 + 256 * (51 + 256 * 51)) by decide, and_3 (by omega) (by omega) (by omega) (by decide), pA_r B0 h0 _ (by omega), pA_r B1 h1 _ (by omega), pA_r B2 h2 _ (by omega)]
  have n0 := pC_lt B0 h0
  have n1 := pC_lt B1 h1
  have n2 := pC_lt B2 h2
  obtain ⟨b, hb⟩ : ∃ b, (a &&& 858993459) + ((a.toUInt32 >>> ((nI 2).toUInt32 &&& Int32.toUInt32 31)).toInt32 &&& 858993459) = b := ⟨_, rfl⟩
  have tb' : tn b = pC B0 + 256 * (pC B1 + 256 * pC B2) := by
    rw [← hb, tn_add, s2, s3]
    have q0 : pC B0 = (pA B0 &&& 51) + ((pA B0 / 4) &&& 51) := rfl
    have q1 : pC B1 = (pA B1 &&& 51) + ((pA B1 / 4) &&& 51) := rfl
    have q2 : pC B2 = (pA B2 &&& 51) + ((pA B2 / 4) &&& 51) := rfl
    omega
  rw [hb]
  -- step 3
  have s4 : tn (b + (b.toUInt32 >>> ((nI 4).toUInt32 &&& Int32.toUInt32 31)).toInt32) = (pC B0 + pC B0 / 16 + 16 * (pC B1 % 16)) + 256 * ((pC B1 + pC B1 / 16 + 16 * (pC B2 % 16)) + 256 * (pC B2 + pC B2 / 16 + 16 * 0)) := by
    rw [tn_add, tn_shr b 4 (by decide), tb']
    omega
  obtain ⟨c, hc⟩ : ∃ c, (b + (b.toUInt32 >>> ((nI 4).toUInt32 &&& Int32.toUInt32 31)).toInt32) &&& 252645135 = c := ⟨_, rfl⟩
  have tc : tn c = pP B0 + 256 * (pP B1 + 256 * pP B2) := by
    rw [← hc, tn_and, s4, show tn (252645135 : Int32) = 15 + 256 * (15 + 256 * (15 + 256 * 15)) by decide, and_3 (by omega) (by omega) (by omega) (by decide), pP_r B0 h0 _ (by omega), pP_r B1 h1 _ (by omega), pP_r B2 h2 _ (by omega)]
  rw [hc]
  have r0 := pP_le B0 h0
  have r1 := pP_le B1 h1
  have r2 := pP_le B2 h2
  have s5 : tn (c + (c.toUInt32 >>> ((nI 8).toUInt32 &&& Int32.toUInt32 31)).toInt32) = (pP B0 + pP B1) + 256 * ((pP B1 + pP B2) + 256 * pP B2) := by
    rw [tn_add, tn_shr c 8 (by decide), tc]
    omega
  obtain ⟨e, he⟩ : ∃ e, c + (c.toUInt32 >>> ((nI 8).toUInt32 &&& Int32.toUInt32 31)).toInt32 = e := ⟨_, rfl⟩
  rw [he] at s5 ⊢
  have s6 : tn (e + (e.toUInt32 >>> ((nI 16).toUInt32 &&& Int32.toUInt32 31)).toInt32) = (pP B0 + pP B1 + pP B2) + 256 * ((pP B1 + pP B2) + 256 * pP B2) := by
    rw [tn_add, tn_shr e 16 (by decide), s5]
    exact p_6 r0 r1 r2
  rw [tn_and, s6, show tn (nI 63) = 2 ^ 6 - 1 by decide, Nat.and_two_pow_sub_one_eq_mod]
  omega
def cn (N : Nat) : Nat → Nat
  | 0 => 0
  | n + 1 => cn N n + N / 2 ^ n % 2
theorem gb_tn (x : Int32) (k : Nat) : (if gb x k = true then 1 else 0) = tn x / 2 ^ k % 2 := by
  unfold gb tn
  rw [BitVec.getLsbD, Nat.testBit_eq_decide_div_mod_eq]
  have := Nat.mod_two_eq_zero_or_one (x.toBitVec.toNat / 2 ^ k)
  by_cases h : x.toBitVec.toNat / 2 ^ k % 2 = 1
  · simp [h]
  · simp [h]; omega
theorem cb_cn (x : Int32) : ∀ n, n ≤ 24 → cbS x n = nI (cn (tn x) n)
  | 0, _ => rfl
  | n + 1, hn => by
    rw [cbS, cb_cn x n (by omega), bit01 x (by omega), gb_tn, nI_add, cn]
theorem cn_b0 (N : Nat) : N / 2 ^ 0 % 2 = (N % 256) % 2 := by omega
theorem cn_b1 (N : Nat) : N / 2 ^ 1 % 2 = (N % 256) / 2 % 2 := by omega
theorem cn_b2 (N : Nat) : N / 2 ^ 2 % 2 = (N % 256) / 4 % 2 := by omega
theorem cn_b3 (N : Nat) : N / 2 ^ 3 % 2 = (N % 256) / 8 % 2 := by omega
theorem cn_b4 (N : Nat) : N / 2 ^ 4 % 2 = (N % 256) / 16 % 2 := by omega
theorem cn_b5 (N : Nat) : N / 2 ^ 5 % 2 = (N % 256) / 32 % 2 := by omega
theorem cn_b6 (N : Nat) : N / 2 ^ 6 % 2 = (N % 256) / 64 % 2 := by omega
theorem cn_b7 (N : Nat) : N / 2 ^ 7 % 2 = (N % 256) / 128 % 2 := by omega
theorem cn_b8 (N : Nat) : N / 2 ^ 8 % 2 = (N / 256 % 256) % 2 := by omega
theorem cn_b9 (N : Nat) : N / 2 ^ 9 % 2 = (N / 256 % 256) / 2 % 2 := by omega
theorem cn_b10 (N : Nat) : N / 2 ^ 10 % 2 = (N / 256 % 256) / 4 % 2 := by omega
theorem cn_b11 (N : Nat) : N / 2 ^ 11 % 2 = (N / 256 % 256) / 8 % 2 := by omega
theorem cn_b12 (N : Nat) : N / 2 ^ 12 % 2 = (N / 256 % 256) / 16 % 2 := by omega
theorem cn_b13 (N : Nat) : N / 2 ^ 13 % 2 = (N / 256 % 256) / 32 % 2 := by omega
theorem cn_b14 (N : Nat) : N / 2 ^ 14 % 2 = (N / 256 % 256) / 64 % 2 := by omega
theorem cn_b15 (N : Nat) : N / 2 ^ 15 % 2 = (N / 256 % 256) / 128 % 2 := by omega
theorem cn_b16 (N : Nat) : N / 2 ^ 16 % 2 = (N / 65536) % 2 := by omega
theorem cn_b17 (N : Nat) : N / 2 ^ 17 % 2 = (N / 65536) / 2 % 2 := by omega
theorem cn_b18 (N : Nat) : N / 2 ^ 18 % 2 = (N / 65536) / 4 % 2 := by omega
theorem cn_b19 (N : Nat) : N / 2 ^ 19 % 2 = (N / 65536) / 8 % 2 := by omega
theorem cn_b20 (N : Nat) : N / 2 ^ 20 % 2 = (N / 65536) / 16 % 2 := by omega
theorem cn_b21 (N : Nat) : N / 2 ^ 21 % 2 = (N / 65536) / 32 % 2 := by omega
theorem cn_b22 (N : Nat) : N / 2 ^ 22 % 2 = (N / 65536) / 64 % 2 := by omega
theorem cn_b23 (N : Nat) : N / 2 ^ 23 % 2 = (N / 65536) / 128 % 2 := by omega
theorem cn_24 (N : Nat) (h : N < 2 ^ 24) : cn N 24 = pP (N % 256) + pP (N / 256 % 256) + pP (N / 65536) := by
  rw [pP_cn _ (by omega), pP_cn _ (by omega), pP_cn _ (by omega)]
  have e : cn N 24 = 0 + N / 2 ^ 0 % 2 + N / 2 ^ 1 % 2 + N / 2 ^ 2 % 2 + N / 2 ^ 3 % 2 + N / 2 ^ 4 % 2 + N / 2 ^ 5 % 2 + N / 2 ^ 6 % 2 + N / 2 ^ 7 % 2 + N / 2 ^ 8 % 2 + N / 2 ^ 9 % 2 + N / 2 ^ 10 % 2 + N / 2 ^ 11 % 2 + N / 2 ^ 12 % 2 + N / 2 ^ 13 % 2 + N / 2 ^ 14 % 2 + N / 2 ^ 15 % 2 + N / 2 ^ 16 % 2 + N / 2 ^ 17 % 2 + N / 2 ^ 18 % 2 + N / 2 ^ 19 % 2 + N / 2 ^ 20 % 2 + N / 2 ^ 21 % 2 + N / 2 ^ 22 % 2 + N / 2 ^ 23 % 2 := rfl
  rw [e, cn_b0, cn_b1, cn_b2, cn_b3, cn_b4, cn_b5, cn_b6, cn_b7, cn_b8, cn_b9, cn_b10, cn_b11, cn_b12, cn_b13, cn_b14, cn_b15, cn_b16, cn_b17, cn_b18, cn_b19, cn_b20, cn_b21, cn_b22, cn_b23]
  simp only [Nat.zero_add, Nat.add_assoc]
theorem pop_cb (x : Int32) (h : tn x < 2 ^ 24) : popS x = cbS x 24 := by
  apply tn_inj
  have h0 := pP_le (tn x % 256) (by omega)
  have h1 := pP_le (tn x / 256 % 256) (by omega)
  have h2 := pP_le (tn x / 65536) (by omega)
  rw [pop_tn x h, cb_cn x 24 (Nat.le_refl _), cn_24 _ h, tn_nI (by omega)]
theorem tn_lt (x : Int32) {n : Nat} (hn : n ≤ 32) (h : ∀ i, n ≤ i → i < 32 → gb x i = false) : tn x < 2 ^ n := by
  apply Nat.lt_pow_two_of_testBit
  intro i hi
  by_cases h2 : i < 32
  · exact h i hi h2
  · exact BitVec.getLsbD_of_ge x.toBitVec i (by omega)
