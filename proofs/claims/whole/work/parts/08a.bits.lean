/-! ===== bits ===== -/
def gb (s : Int32) (w : Nat) : Bool := s.toBitVec.getLsbD w
theorem sh_amt : ∀ w, w < 32 → (nI w &&& 31).toBitVec.smod 32 = BitVec.ofNat 32 w := by decide
theorem shr_gb (s : Int32) {w : Nat} (hw : w < 32) (i : Nat) : gb (s >>> (nI w &&& 31)) i = (decide (i < 32) && if w + i < 32 then gb s (w + i) else s.toBitVec.msb) := by
  unfold gb
  rw [Int32.toBitVec_shiftRight, BitVec.sshiftRight', sh_amt w hw, BitVec.toNat_ofNat, Nat.mod_eq_of_lt (by omega), BitVec.getLsbD_sshiftRight]
  by_cases h : i < 32
  · simp [h, Nat.not_le.mpr h]
  · simp [h, Nat.not_lt.mp h]
theorem shl_gb (s : Int32) {w : Nat} (hw : w < 32) (i : Nat) : gb (s <<< (nI w &&& 31)) i = (decide (i < 32) && !decide (i < w) && gb s (i - w)) := by
  unfold gb
  rw [Int32.toBitVec_shiftLeft, sh_amt w hw, BitVec.shiftLeft_eq', BitVec.toNat_ofNat, Nat.mod_eq_of_lt (by omega), BitVec.getLsbD_shiftLeft]
theorem and_gb (s t : Int32) (i : Nat) : gb (s &&& t) i = (gb s i && gb t i) := by
  unfold gb; rw [Int32.toBitVec_and, BitVec.getLsbD_and]
theorem or_gb (s t : Int32) (i : Nat) : gb (s ||| t) i = (gb s i || gb t i) := by
  unfold gb; rw [Int32.toBitVec_or, BitVec.getLsbD_or]
theorem not_gb (s : Int32) {i : Nat} (hi : i < 32) : gb (s ^^^ -1) i = !gb s i := by
  unfold gb
  rw [Int32.toBitVec_xor, BitVec.getLsbD_xor]
  rw [show ((-1 : Int32).toBitVec).getLsbD i = true from ?_]
  · cases s.toBitVec.getLsbD i <;> rfl
  · rw [show (-1 : Int32).toBitVec = BitVec.allOnes 32 from rfl, BitVec.getLsbD_allOnes]
    exact decide_eq_true hi
theorem gb_ext {s t : Int32} (h : ∀ i, i < 32 → gb s i = gb t i) : s = t := by
  apply Int32.toBitVec_inj.mp
  exact BitVec.eq_of_getLsbD_eq h
theorem one_gb (i : Nat) : gb (nI 1) i = decide (i = 0) := by
  unfold gb
  show (1#32).getLsbD i = _
  rw [BitVec.getLsbD_one]
  simp
theorem zero_gb (i : Nat) : gb (nI 0) i = false := by
  unfold gb
  show (0#32).getLsbD i = _
  exact BitVec.getLsbD_zero
theorem pw_gb {w : Nat} (hw : w < 32) (i : Nat) : gb (nI 1 <<< (nI w &&& 31)) i = decide (i = w) := by
  rw [shl_gb _ hw, one_gb]
  by_cases h : i = w
  · subst h; simp [hw]
  · by_cases h2 : i < w
    · simp [h, h2]
    · simp [h]; omega
theorem bit_gb (s : Int32) {w : Nat} (hw : w < 32) : bit s w ↔ gb s w = true := by
  unfold bit
  constructor
  · intro h
    have h1 := congrArg (fun x => gb x 0) h
    rw [and_gb, shr_gb s hw, one_gb] at h1
    simpa [hw] using h1
  · intro h
    apply gb_ext
    intro i hi
    rw [and_gb, shr_gb s hw, one_gb]
    by_cases h0 : i = 0
    · subst h0; simp [hw, h]
    · simp [h0]
theorem bit01 (s : Int32) {w : Nat} (hw : w < 32) : (s >>> (nI w &&& 31)) &&& nI 1 = nI (if gb s w = true then 1 else 0) := by
  by_cases h : gb s w = true
  · rw [if_pos h]; exact (bit_gb s hw).mpr h
  · rw [if_neg h]
    apply gb_ext
    intro i hi
    rw [and_gb, shr_gb s hw, one_gb, zero_gb]
    by_cases h0 : i = 0
    · subst h0; simp [hw, h]
    · simp [h0]
/-- all bits below n -/
theorem all_gb : ∀ n, n ≤ 24 → ∀ i, i < 32 → gb ((nI 1 <<< (nI n &&& 31)) - nI 1) i = decide (i < n) := by decide +kernel
theorem wSum_ext {f g : Nat → Int32} {s t : Int32} : ∀ n, n ≤ 24 → (∀ i, i < n → f i = g i) → (∀ i, i < n → gb s i = gb t i) → wSum f s n = wSum g t n
  | 0, _, _, _ => rfl
  | n + 1, hn, h1, h2 => by
    have ih := wSum_ext n (by omega) (fun i hi => h1 i (by omega)) (fun i hi => h2 i (by omega))
    have e : bit s n ↔ bit t n := by rw [bit_gb s (by omega), bit_gb t (by omega), h2 n (by omega)]
    rw [wSum, wSum, ih, h1 n (by omega)]
    by_cases hb : bit t n
    · rw [if_pos hb, if_pos (e.mpr hb)]
    · rw [if_neg hb, if_neg (fun z => hb (e.mp z))]
theorem wBy_ext {f g : Nat → Int32} {c : Int32} : ∀ n, (∀ i, i < n → f i = g i) → wBy f c n = wBy g c n
  | 0, _ => rfl
  | n + 1, h1 => by
    rw [wBy, wBy, wBy_ext n (fun i hi => h1 i (by omega)), h1 n (by omega)]
theorem wBy_gb (g : Nat → Int32) (c : Int32) : ∀ n, n ≤ 24 → ∀ i, gb (wBy g c n) i = (decide (i < n) && decide (g i = c))
  | 0, _, i => by rw [wBy, zero_gb]; simp
  | n + 1, hn, i => by
    have ih := wBy_gb g c n (by omega) i
    rw [wBy]
    by_cases h : g n = c
    · rw [if_pos h, or_gb, ih, pw_gb (by omega)]
      by_cases e : i = n
      · subst e; simp [h]
      · by_cases l : i < n
        · simp [l, e, Nat.lt_succ_of_lt l]
        · have : ¬ i < n + 1 := by omega
          simp [l, e, this]
    · rw [if_neg h, ih]
      by_cases e : i = n
      · subst e; simp [h]
      · by_cases l : i < n
        · simp [l, Nat.lt_succ_of_lt l]
        · have : ¬ i < n + 1 := by omega
          simp [l, this]
theorem withS_ext {f g : Nat → Int32} {s : Int32} : ∀ n, (∀ i, i < n → f i = g i) → withS f s n = withS g s n
  | 0, _ => rfl
  | n + 1, h1 => by
    rw [withS, withS, withS_ext n (fun i hi => h1 i (by omega)), h1 n (by omega)]
/-- a set's bit, tried as the program does and as the model does -/
theorem with_ho (m : Nat → Int32) (f : Nat) {w : Nat} (hw : w < 24) : ∀ n, n ≤ 4 → withS (fun i => m (f + i)) (nI 1 <<< (nI w &&& 31)) n = hoS m f (nI w) n
  | 0, _ => rfl
  | n + 1, hn => by
    rw [withS, hoS, with_ho m f hw n (by omega), bit01 _ (by omega)]
    have e : m (f + n) &&& (nI 1 <<< (nI w &&& 31)) = (nI 1 <<< (nI w &&& 31)) ↔ gb (m (f + n)) w = true := by
      constructor
      · intro h
        have h1 := congrArg (fun x => gb x w) h
        rw [and_gb, pw_gb (by omega)] at h1
        simpa using h1
      · intro h
        apply gb_ext
        intro i hi
        rw [and_gb, pw_gb (by omega)]
        by_cases h0 : i = w
        · subst h0; simp [h]
        · simp [h0]
    by_cases h : gb (m (f + n)) w = true
    · rw [if_pos (e.mpr h), if_pos h]
    · rw [if_neg (fun z => h (e.mp z)), if_neg h]
      apply gb_ext
      intro i hi
      rw [or_gb, shl_gb _ (by omega), zero_gb]
      simp
