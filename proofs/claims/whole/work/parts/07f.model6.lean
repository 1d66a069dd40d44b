theorem T_lstore1 {X : Cx} {l : Launch} {y : MethodName} {cc : ByteArray} {nL : Nat} {ret : Option FieldType} {d pc : Nat} {st : List Value} {σ : Hp} {Q : Option Value → Hp → Prop} {l0 l1 l2 : Option Value} {t : List (Option Value)} {x : Int64} (hd : decode cc pc = .ok (.lstore_n 1, 1)) (h0 : okS (l0 :: l1 :: l2 :: t) 1 = true) (hn : 2 < nL) (k : T X l y cc nL ret d (pc + 1) (l0 :: some (.long x) :: none :: t) st σ Q) : T X l y cc nL ret d pc (l0 :: l1 :: l2 :: t) (.long x :: st) σ Q := by
  intro p e s m args below meth c H locs lsA hF hP hS hl
  refine lv_lstore_n hF.1 hF.2.1 hd rfl hl hn rfl (fun ls2 h2 => k p e s m args below meth c H locs ls2 hF hP hS (has_mono h2 ?_))
  intro q hq
  have e1 : ((l0 :: some (Value.long x) :: none :: t).set 1 (some (Value.long x))) = l0 :: some (Value.long x) :: none :: t := rfl
  have hq1 := kn_set (ls := l0 :: l1 :: l2 :: t) (i := 1) (v := .long x) h0
  obtain ⟨n, w⟩ := q
  obtain ⟨j, h3, h4⟩ := kn_of _ 0 n w hq
  have h3 : n = j := by omega
  subst h3
  match n, h4 with
  | 0, h4 =>
    have h5 : ((l0 :: l1 :: l2 :: t).set 1 (some (Value.long x)))[0]? = some (some w) := h4
    have h6 := kn_get _ 0 0 w h5
    have h7 := hq1 _ h6
    rcases List.mem_cons.mp h7 with h8 | h8
    · have h9 : 0 = 1 := congrArg Prod.fst h8
      omega
    · obtain ⟨h9, h10⟩ := List.mem_filter.mp h8
      refine List.mem_cons_of_mem _ (List.mem_filter.mpr ⟨h9, ?_⟩)
      simpa using h10
  | 1, h4 =>
    have h5 : some (some (Value.long x)) = some (some w) := h4
    cases h5
    exact List.mem_cons_self
  | 2, h4 => cases h4
  | n + 3, h4 =>
    have h5 : (l0 :: l1 :: l2 :: t)[n + 3]? = some (some w) := h4
    have h6 := kn_get _ 0 (n + 3) w h5
    rw [Nat.zero_add] at h6
    refine List.mem_cons_of_mem _ (List.mem_filter.mpr ⟨h6, ?_⟩)
    simp
/-- the parser's fields: at, token, tokenAt, value -/
def stN (h : Rg) (a k s v : Int32) : Rg := up1 h 0 (upd (upd (upd (upd (h 0) 9 a) 10 k) 11 s) 12 v)
theorem stN_id (h : Rg) : stN h (h 0 9) (h 0 10) (h 0 11) (h 0 12) = h := by
  unfold stN
  rw [show upd (upd (upd (upd (h 0) 9 (h 0 9)) 10 (h 0 10)) 11 (h 0 11)) 12 (h 0 12) = h 0 from ?_, up1_id]
  funext j
  unfold upd
  split
  · rename_i e; rw [e]
  · split
    · rename_i e; rw [e]
    · split
      · rename_i e; rw [e]
      · split
        · rename_i e; rw [e]
        · rfl
theorem upd_comm (f : Nat → Int32) {i j : Nat} (hij : ¬ i = j) (a b : Int32) : upd (upd f i a) j b = upd (upd f j b) i a := by
  funext x
  unfold upd
  by_cases h1 : x = j
  · rw [if_pos h1, if_neg (by omega), if_pos h1]
  · rw [if_neg h1, if_neg h1]
theorem stN_a (h : Rg) (a k s v x : Int32) : up2 (stN h a k s v) 0 9 x = stN h x k s v := by
  unfold stN
  rw [up2_of1, upd_comm _ (by decide : ¬ 12 = 9), upd_comm _ (by decide : ¬ 11 = 9), upd_comm _ (by decide : ¬ 10 = 9), upd_upd]
theorem stN_k (h : Rg) (a k s v x : Int32) : up2 (stN h a k s v) 0 10 x = stN h a x s v := by
  unfold stN
  rw [up2_of1, upd_comm _ (by decide : ¬ 12 = 10), upd_comm _ (by decide : ¬ 11 = 10), upd_upd]
theorem stN_s (h : Rg) (a k s v x : Int32) : up2 (stN h a k s v) 0 11 x = stN h a k x v := by
  unfold stN
  rw [up2_of1, upd_comm _ (by decide : ¬ 12 = 11), upd_upd]
theorem stN_v (h : Rg) (a k s v x : Int32) : up2 (stN h a k s v) 0 12 x = stN h a k s x := by
  unfold stN
  rw [up2_of1, upd_upd]
theorem stN_i (h : Rg) (a k s v x : Int32) : up2 (stN h a k s v) 0 16 x = stN (up2 h 0 16 x) a k s v := by
  unfold stN
  rw [up2_of1, upd_comm _ (by decide : ¬ 12 = 16), upd_comm _ (by decide : ¬ 11 = 16), upd_comm _ (by decide : ¬ 10 = 16), upd_comm _ (by decide : ¬ 9 = 16)]
  funext z
  unfold up1 up2
  by_cases hz : z = 0
  · rw [if_pos hz, if_pos hz]; rfl
  · rw [if_neg hz, if_neg hz, if_neg hz]
theorem stN_r (h : Rg) (a k s v x : Int32) (j : Nat) : up2 (stN h a k s v) 2 j x = stN (up2 h 2 j x) a k s v := by
  funext z
  unfold stN up2 up1
  by_cases hz : z = 0
  · subst hz; rfl
  · by_cases h2 : z = 2
    · subst h2; rfl
    · simp [hz, h2]
theorem up2_id (h : Rg) (k j : Nat) : up2 h k j (h k j) = h := by
  funext z
  unfold up2
  split
  · rename_i e
    subst e
    funext i
    unfold upd
    split
    · rename_i e2; rw [e2]
    · rfl
  · rfl
/-- the first place from p on that holds no blank -/
def psS (g : Nat → Int32) : Nat → Nat → Nat
  | 0, p => p
  | n + 1, p => if g p = nI 32 then psS g n (p + 1) else p
theorem psS_le (g : Nat → Int32) : ∀ n p, p ≤ psS g n p ∧ psS g n p ≤ p + n
  | 0, p => ⟨Nat.le_refl _, Nat.le_refl _⟩
  | n + 1, p => by
    rw [psS]
    split
    · have := psS_le g n (p + 1); omega
    · omega
def vlM (g : Nat → Int32) (s : Nat) : Nat → Int32
  | 0 => nI 0
  | n + 1 => if vlM g s n ≤ nI 99 then nI 10 * vlM g s n + g (s + n) - nI 48 else vlM g s n
/-- a token's code in the model -/
def kc (k : Int32) : Int32 := if k = nI 0 then nI 1000 else if k = nI 1 then nI 1003 else if k = nI 2 then nI 1004 else if k = nI 3 then nI 1002 else if k = nI 4 then nI 59 else nI 1001
def nS (g : Nat → Int32) (len p : Nat) : Nat := psS g (len - p) p
noncomputable def nE (g : Nat → Int32) (len p : Nat) : Nat := if nS g len p = len then len else tkE g len (nS g len p)
noncomputable def nK (g : Nat → Int32) (len p : Nat) : Int32 := if nS g len p = len then nI 0 else tkK g len (nS g len p)
noncomputable def nV (g : Nat → Int32) (len p : Nat) (v : Int32) : Int32 := if nS g len p = len then v else if isF (g (nS g len p)) then vlM g (nS g len p) (nE g len p - nS g len p) else v
theorem nS_le (g : Nat → Int32) {len p : Nat} (hp : p ≤ len) : p ≤ nS g len p ∧ nS g len p ≤ len := by
  have := psS_le g (len - p) p
  unfold nS
  omega
theorem nE_le (g : Nat → Int32) {len p : Nat} (hp : p ≤ len) : p ≤ nE g len p ∧ nE g len p ≤ len := by
  have h := nS_le g hp
  unfold nE
  split
  · omega
  · have := tkE_gt g (show nS g len p < len by omega)
    omega
noncomputable def NX (h : Rg) (len q : Nat) (v : Int32) : Rg := stN h (nI (nE (h 7) len q)) (kc (nK (h 7) len q)) (nI (nS (h 7) len q)) (nV (h 7) len q v)
/-- the word's number, five bits a letter -/
def wN (g : Nat → Int32) : Nat → Nat → Nat
  | 0, _ => 0
  | n + 1, s => ((g s).toNatClampNeg - 96) + 32 * wN g n (s + 1)
theorem isL_of {x : Int32} (h : isL x) : ∃ j, 97 ≤ j ∧ j ≤ 122 ∧ x = nI j := by
  have h0 : ¬ x < 0 := fun z => h.1 (Int32.lt_of_lt_of_le z (by decide))
  obtain ⟨j, hj, rfl⟩ := nI_of h0
  refine ⟨j, ?_, ?_, rfl⟩
  · exact Nat.le_of_not_lt fun z => h.1 (nI_lt z (by omega))
  · exact Nat.le_of_not_lt fun z => h.2 (nI_lt z hj)
theorem nI_64 : ∀ j, j < 128 → (nI j).toInt64 = Int64.ofNat j := by decide
theorem nI_cl : ∀ j, j < 128 → (nI j).toNatClampNeg = j := by decide
theorem wN_step (g : Nat → Int32) (n s : Nat) (h : isL (g s)) : 32 * Int64.ofNat (wN g n (s + 1)) + (g s).toInt64 - 97 + 1 = Int64.ofNat (wN g (n + 1) s) := by
  obtain ⟨j, h1, h2, e⟩ := isL_of h
  rw [wN, e, nI_64 j (by omega), nI_cl j (by omega)]
  obtain ⟨i, rfl⟩ : ∃ i, j = 96 + i := ⟨j - 96, by omega⟩
  rw [Nat.add_sub_cancel_left, Int64.ofNat_add, Int64.ofNat_add, Int64.ofNat_mul]
  generalize Int64.ofNat (wN g n (s + 1)) = a
  generalize Int64.ofNat i = b
  show 32 * a + (96 + b) - 97 + 1 = b + 32 * a
  generalize 32 * a = c
  rw [Int64.sub_eq_add_neg, Int64.add_assoc, Int64.add_assoc, Int64.add_comm c, Int64.add_comm 96 b, Int64.add_assoc b, Int64.add_assoc b, show (96 : Int64) + (-97 + 1) = 0 from rfl, Int64.zero_add]
theorem wN_lt (g : Nat → Int32) : ∀ n s, (∀ j, j < n → isL (g (s + j))) → wN g n s < 32 ^ n
  | 0, s, _ => Nat.zero_lt_one
  | n + 1, s, h => by
    have h1 := wN_lt g n (s + 1) (fun j hj => by have := h (j + 1) (by omega); rwa [show s + (j + 1) = s + 1 + j by omega] at this)
    obtain ⟨j, h2, h3, e⟩ := isL_of (h 0 (by omega))
    rw [Nat.add_zero] at e
    rw [wN, e, nI_cl j (by omega), Nat.pow_succ]
    omega
theorem ofN64 {a b : Nat} (ha : a < 2 ^ 60) (hb : b < 2 ^ 60) (h : Int64.ofNat a = Int64.ofNat b) : a = b := by
  have h1 := congrArg Int64.toInt h
  rw [Int64.toInt_ofNat_of_lt (by omega), Int64.toInt_ofNat_of_lt (by omega)] at h1
  omega
theorem wN_peel (g : Nat → Int32) (n s c : Nat) (h : ∀ j, j < n → isL (g (s + j))) (hw : wN g n s = c) (hc : 0 < c) : ∃ n', n = n' + 1 ∧ g s = nI (96 + c % 32) ∧ wN g n' (s + 1) = c / 32 ∧ ∀ j, j < n' → isL (g (s + 1 + j)) := by
  cases n with
  | zero => rw [wN] at hw; omega
  | succ n =>
    obtain ⟨j, h1, h2, e⟩ := isL_of (h 0 (by omega))
    rw [Nat.add_zero] at e
    rw [wN, e, nI_cl j (by omega)] at hw
    refine ⟨n, rfl, ?_, by omega, fun j hj => ?_⟩
    · rw [e, show 96 + c % 32 = j by omega]
    · have := h (j + 1) (by omega)
      rwa [show s + (j + 1) = s + 1 + j by omega] at this
theorem wN_none (g : Nat → Int32) (n s : Nat) (h : ∀ j, j < n → isL (g (s + j))) (hw : wN g n s = 0) : n = 0 := by
  cases n with
  | zero => rfl
  | succ n =>
    obtain ⟨j, h1, h2, e⟩ := isL_of (h 0 (by omega))
    rw [Nat.add_zero] at e
    rw [wN, e, nI_cl j (by omega)] at hw
    omega
theorem wN_six (g : Nat → Int32) (n s c : Nat) (h : ∀ j, j < n → isL (g (s + j))) (hw : wN g n s = c) (hc : 32 ^ 5 ≤ c) (hc2 : c < 32 ^ 6) : n = 6 ∧ ∀ j, j < 6 → g (s + j) = nI (96 + c / 32 ^ j % 32) := by
  obtain ⟨n1, r1, e0, w1, h1⟩ := wN_peel g n s c h hw (by omega)
  obtain ⟨n2, r2, e1, w2, h2⟩ := wN_peel g n1 (s + 1) _ h1 w1 (by omega)
  obtain ⟨n3, r3, e2, w3, h3⟩ := wN_peel g n2 (s + 1 + 1) _ h2 w2 (by omega)
  obtain ⟨n4, r4, e3, w4, h4⟩ := wN_peel g n3 (s + 1 + 1 + 1) _ h3 w3 (by omega)
  obtain ⟨n5, r5, e4, w5, h5⟩ := wN_peel g n4 (s + 1 + 1 + 1 + 1) _ h4 w4 (by omega)
  obtain ⟨n6, r6, e5, w6, h6⟩ := wN_peel g n5 (s + 1 + 1 + 1 + 1 + 1) _ h5 w5 (by omega)
  have z := wN_none g n6 _ h6 (by rw [w6]; omega)
  refine ⟨by omega, fun j hj => ?_⟩
  match j, hj with
  | 0, _ => rw [Nat.add_zero, e0, Nat.pow_zero, Nat.div_one]
  | 1, _ => rw [e1]
  | 2, _ => rw [show s + 2 = s + 1 + 1 from rfl, e2, Nat.div_div_eq_div_mul]
  | 3, _ => rw [show s + 3 = s + 1 + 1 + 1 from rfl, e3, Nat.div_div_eq_div_mul, Nat.div_div_eq_div_mul]
  | 4, _ => rw [show s + 4 = s + 1 + 1 + 1 + 1 from rfl, e4, Nat.div_div_eq_div_mul, Nat.div_div_eq_div_mul, Nat.div_div_eq_div_mul]
  | 5, _ => rw [show s + 5 = s + 1 + 1 + 1 + 1 + 1 from rfl, e5, Nat.div_div_eq_div_mul, Nat.div_div_eq_div_mul, Nat.div_div_eq_div_mul, Nat.div_div_eq_div_mul]
theorem wN_val (g : Nat → Int32) (s : Nat) : wN g 6 s = ((g s).toNatClampNeg - 96) + 32 * (((g (s + 1)).toNatClampNeg - 96) + 32 * (((g (s + 2)).toNatClampNeg - 96) + 32 * (((g (s + 3)).toNatClampNeg - 96) + 32 * (((g (s + 4)).toNatClampNeg - 96) + 32 * (((g (s + 5)).toNatClampNeg - 96) + 32 * 0))))) := rfl
theorem sB0 : ∀ j, j < 6 → nI (96 + 643088867 / 32 ^ j % 32) = sB 0 j := by decide
theorem sB1 : ∀ j, j < 6 → nI (96 + 642209250 / 32 ^ j % 32) = sB 1 j := by decide
/-- a word of letters is the constant just when its number is -/
theorem wN_is0 (g : Nat → Int32) (s n : Nat) (h : ∀ j, j < n → isL (g (s + j))) : wN g n s = 643088867 ↔ wIs 0 g s (s + n) := by
  constructor
  · intro hw
    obtain ⟨h6, hj⟩ := wN_six g n s _ h hw (by decide) (by decide)
    exact ⟨by omega, fun j h1 => by rw [hj j h1]; exact (sB0 j h1).symm⟩
  · rintro ⟨h6, hj⟩
    have hn6 : n = 6 := by omega
    subst hn6
    rw [wN_val, ← hj 1 (by omega), ← hj 2 (by omega), ← hj 3 (by omega), ← hj 4 (by omega), ← hj 5 (by omega), show g s = sB 0 0 from (hj 0 (by omega)).symm]
    decide
theorem wN_is1 (g : Nat → Int32) (s n : Nat) (h : ∀ j, j < n → isL (g (s + j))) : wN g n s = 642209250 ↔ wIs 1 g s (s + n) := by
  constructor
  · intro hw
    obtain ⟨h6, hj⟩ := wN_six g n s _ h hw (by decide) (by decide)
    exact ⟨by omega, fun j h1 => by rw [hj j h1]; exact (sB1 j h1).symm⟩
  · rintro ⟨h6, hj⟩
    have hn6 : n = 6 := by omega
    subst hn6
    rw [wN_val, ← hj 1 (by omega), ← hj 2 (by omega), ← hj 3 (by omega), ← hj 4 (by omega), ← hj 5 (by omega), show g s = sB 1 0 from (hj 0 (by omega)).symm]
    decide

set_option maxHeartbeats 4000000 in
set_option maxRecDepth 100000 in
theorem k_X4_beginRead {X : Cx} {l : Launch} {σ0 : Hp} {h : Rg} (hv4 : Lv X 4 0) : Con X l yX4_beginRead cX4_beginRead 2 none 0 [.ref (adr X 4 0 0)] (setR σ0 4 0 h) (Ex none (setR σ0 4 0 (up1 h 2 (bgS (h 2))))) := by
  refine Con_of [some (.ref (adr X 4 0 0)), none] (by decide) rfl (Nat.le_of_ble_eq_true rfl) ?_
  have hl2 : ∀ (n k : Nat), k + n = 4 → T X l yX4_beginRead cX4_beginRead 2 none 0 30 [some (.ref (adr X 4 0 0)), some (.int (nI k))] [] (setR σ0 4 0 (up1 h 2 (bgL (upd (fillT (h 2) (nI 0) 127) 0 (nI 3)) k))) (Ex none (setR σ0 4 0 (up1 h 2 (bgS (h 2))))) := by
    intro n
    induction n with
    | zero =>
      intro k hk
      have hk : k = 4 := by omega
      subst hk
      refine T_iload_n dX4_beginRead_30 rfl rfl ?_
      refine T_iconst (v := nI 4) dX4_beginRead_31 rfl ?_
      refine T_icmp_ge 81 dX4_beginRead_32 (by decide) (fun h32 => ?_) (fun h32 => (absurd (nI_le (Nat.le_refl _) (by omega)) h32))
      refine T_vret rfl dX4_beginRead_81 ?_
      exact ⟨rfl, rfl⟩
    | succ n ih =>
      intro k hk
      have hnx := ih (k + 1) (by omega)
      have hk : k < 4 := by omega
      refine T_iload_n dX4_beginRead_30 rfl rfl ?_
      refine T_iconst (v := nI 4) dX4_beginRead_31 rfl ?_
      refine T_icmp_ge 81 dX4_beginRead_32 (by decide) (fun h32 => (absurd h32 (nI_ge hk (by omega)))) (fun h32 => ?_)
      refine T_aload_n dX4_beginRead_35 rfl rfl ?_
      refine T_g4F hv4 1 (by decide) fl_X4_13 rfl dX4_beginRead_36 ?_
      refine T_iconst (v := nI 2) dX4_beginRead_39 rfl ?_
      refine T_iconst (v := nI 3) dX4_beginRead_40 rfl ?_
      refine T_iload_n dX4_beginRead_41 rfl rfl ?_
      first | refine T_imulN dX4_beginRead_42 ?_ | refine T_imul dX4_beginRead_42 ?_
      first | refine T_iaddN dX4_beginRead_43 ?_ | refine T_iadd dX4_beginRead_43 ?_
      refine T_bipush (v := nI 99) dX4_beginRead_44 (by decide) ?_
      refine T_iastF (hv4 2 (by decide)) (fun _ => rfl) (n := 127) (by decide) _ (by omega) rfl dX4_beginRead_46 ?_
      refine T_aload_n dX4_beginRead_47 rfl rfl ?_
      refine T_g4F hv4 1 (by decide) fl_X4_13 rfl dX4_beginRead_48 ?_
      refine T_iconst (v := nI 2) dX4_beginRead_51 rfl ?_
      refine T_iconst (v := nI 3) dX4_beginRead_52 rfl ?_
      refine T_iload_n dX4_beginRead_53 rfl rfl ?_
      first | refine T_imulN dX4_beginRead_54 ?_ | refine T_imul dX4_beginRead_54 ?_
      first | refine T_iaddN dX4_beginRead_55 ?_ | refine T_iadd dX4_beginRead_55 ?_
      refine T_iconst (v := nI 1) dX4_beginRead_56 rfl ?_
      first | refine T_iaddN dX4_beginRead_57 ?_ | refine T_iadd dX4_beginRead_57 ?_
      refine T_bipush (v := nI 9) dX4_beginRead_58 (by decide) ?_
      refine T_iastF (hv4 2 (by decide)) (fun _ => rfl) (n := 127) (by decide) _ (by omega) rfl dX4_beginRead_60 ?_
      refine T_aload_n dX4_beginRead_61 rfl rfl ?_
      refine T_g4F hv4 1 (by decide) fl_X4_13 rfl dX4_beginRead_62 ?_
      refine T_iconst (v := nI 2) dX4_beginRead_65 rfl ?_
      refine T_iconst (v := nI 3) dX4_beginRead_66 rfl ?_
      refine T_iload_n dX4_beginRead_67 rfl rfl ?_
      first | refine T_imulN dX4_beginRead_68 ?_ | refine T_imul dX4_beginRead_68 ?_
      first | refine T_iaddN dX4_beginRead_69 ?_ | refine T_iadd dX4_beginRead_69 ?_
      refine T_iconst (v := nI 2) dX4_beginRead_70 rfl ?_
      first | refine T_iaddN dX4_beginRead_71 ?_ | refine T_iadd dX4_beginRead_71 ?_
      refine T_bipush (v := nI 99) dX4_beginRead_72 (by decide) ?_
      refine T_iastF (hv4 2 (by decide)) (fun _ => rfl) (n := 127) (by decide) _ (by omega) rfl dX4_beginRead_74 ?_
      first | refine T_iincN1 dX4_beginRead_75 rfl (by decide) ?_ | refine T_iinc1 dX4_beginRead_75 rfl rfl (by decide) ?_
      refine T_goto 30 dX4_beginRead_78 (by decide) ?_
      rw [up2_of1, up2_of1, up2_of1]
      exact hnx
  have hl1 : ∀ (n k : Nat), k + n = 127 → T X l yX4_beginRead cX4_beginRead 2 none 0 2 [some (.ref (adr X 4 0 0)), some (.int (nI k))] [] (setR σ0 4 0 (up1 h 2 (fillT (h 2) (nI 0) k))) (Ex none (setR σ0 4 0 (up1 h 2 (bgS (h 2))))) := by
    intro n
    induction n with
    | zero =>
      intro k hk
      have hk : k = 127 := by omega
      subst hk
      refine T_iload_n dX4_beginRead_2 rfl rfl ?_
      refine T_bipush (v := nI 127) dX4_beginRead_3 (by decide) ?_
      refine T_icmp_ge 21 dX4_beginRead_5 (by decide) (fun h5 => ?_) (fun h5 => (absurd (nI_le (Nat.le_refl _) (by omega)) h5))
      refine T_aload_n dX4_beginRead_21 rfl rfl ?_
      refine T_g4F hv4 1 (by decide) fl_X4_13 rfl dX4_beginRead_22 ?_
      refine T_iconst (v := nI 0) dX4_beginRead_25 rfl ?_
      refine T_iconst (v := nI 3) dX4_beginRead_26 rfl ?_
      refine T_iastF (hv4 2 (by decide)) (fun _ => rfl) (n := 127) (by decide) _ (by omega) rfl dX4_beginRead_27 ?_
      refine T_iconst (v := nI 0) dX4_beginRead_28 rfl ?_
      refine T_istore1 dX4_beginRead_29 rfl (by decide) ?_
      rw [up2_of1]
      exact hl2 4 0 (by omega)
    | succ n ih =>
      intro k hk
      have hnx := ih (k + 1) (by omega)
      have hk : k < 127 := by omega
      refine T_iload_n dX4_beginRead_2 rfl rfl ?_
      refine T_bipush (v := nI 127) dX4_beginRead_3 (by decide) ?_
      refine T_icmp_ge 21 dX4_beginRead_5 (by decide) (fun h5 => (absurd h5 (nI_ge hk (by omega)))) (fun h5 => ?_)
      refine T_aload_n dX4_beginRead_8 rfl rfl ?_
      refine T_g4F hv4 1 (by decide) fl_X4_13 rfl dX4_beginRead_9 ?_
      refine T_iload_n dX4_beginRead_12 rfl rfl ?_
      refine T_iconst (v := nI 0) dX4_beginRead_13 rfl ?_
      refine T_iastF (hv4 2 (by decide)) (fun _ => rfl) (n := 127) (by decide) _ (by omega) rfl dX4_beginRead_14 ?_
      first | refine T_iincN1 dX4_beginRead_15 rfl (by decide) ?_ | refine T_iinc1 dX4_beginRead_15 rfl rfl (by decide) ?_
      refine T_goto 2 dX4_beginRead_18 (by decide) ?_
      rw [up2_of1]
      exact hnx
  refine T_iconst (v := nI 0) dX4_beginRead_0 rfl ?_
  refine T_istore1 dX4_beginRead_1 rfl (by decide) ?_
  have h0 := hl1 127 0 (by omega)
  rw [fillT, up1_id] at h0
  exact h0
set_option maxHeartbeats 4000000 in
set_option maxRecDepth 100000 in
theorem k_X4_type {X : Cx} {l : Launch} {σ0 : Hp} {h : Rg} {Q : Option Value → Hp → Prop} {n : Nat} {v : Int32} (hv4 : Lv X 4 0) (hs : h 0 8 = nI n) (hs8 : n ≤ 80) (hB : ¬ inB v (nI 0) (nI 255) → Q (some (.int (-1))) (setR σ0 4 0 h)) (hF : inB v (nI 0) (nI 255) → ¬ n < 80 → Q (some (.int (-3))) (setR σ0 4 0 h)) (hO : inB v (nI 0) (nI 255) → n < 80 → Q (some (.int (nI (n + 1)))) (setR σ0 4 0 (up2 (up2 h 7 n v) 0 8 (nI (n + 1))))) : Con X l yX4_type cX4_type 2 (some .int) 1 [.ref (adr X 4 0 0), .int v] (setR σ0 4 0 h) Q := by
  refine Con_of [some (.ref (adr X 4 0 0)), some (.int v)] (by decide) rfl (Nat.le_of_ble_eq_true rfl) ?_
  refine T_iload_n dX4_type_0 rfl rfl ?_
  refine T_iconst (v := nI 0) dX4_type_1 rfl ?_
  refine T_sipush (v := nI 255) dX4_type_2 (by decide) ?_
  refine T_si k_X4_in ml_X4_63 sm_yX4_in ini_RX4 co_yX4_in de_X4_in (by decide) (by decide) rfl (Nat.le_of_ble_eq_true rfl) dX4_type_5 ?_
  refine T_if_ne 13 dX4_type_8 (by decide) (fun h8 => ?_) (fun h8 => ?_)
  · refine T_aload_n dX4_type_13 rfl rfl ?_
    refine T_g4F hv4 8 (by decide) fl_X4_60 rfl dX4_type_14 ?_
    refine T_bipush (v := nI 80) dX4_type_17 (by decide) ?_
    refine T_icmp_ne 25 dX4_type_19 (by decide) (fun h19 => ?_) (fun h19 => ?_)
    · have hlt : n < 80 := Classical.byContradiction fun z => h19 (by rw [hs, show n = 80 by omega])
      refine T_aload_n dX4_type_25 rfl rfl ?_
      refine T_g4F hv4 7 (by decide) fl_X4_29 rfl dX4_type_26 ?_
      refine T_aload_n dX4_type_29 rfl rfl ?_
      refine T_g4F hv4 8 (by decide) fl_X4_60 rfl dX4_type_30 ?_
      refine T_iload_n dX4_type_33 rfl rfl ?_
      refine T_iastF (hv4 _ (by decide)) (fun _ => rfl) (Nat.le_of_ble_eq_true rfl) (n) (by omega) (hs) dX4_type_34 ?_
      refine T_aload_n dX4_type_35 rfl rfl ?_
      refine T_dup dX4_type_36 rfl ?_
      refine T_g4F (v := .int (nI n)) hv4 8 (by decide) fl_X4_60 (congrArg (fun z => some (Value.int z)) hs) dX4_type_37 ?_
      refine T_iconst (v := nI 1) dX4_type_40 rfl ?_
      first | refine T_iaddN dX4_type_41 ?_ | refine T_iadd dX4_type_41 ?_
      refine T_p4F hv4 8 (by decide) rfl rfl fl_X4_60 (by decide) rfl dX4_type_42 ?_
      refine T_aload_n dX4_type_45 rfl rfl ?_
      refine T_g4F hv4 8 (by decide) fl_X4_60 rfl dX4_type_46 ?_
      refine T_iret rfl dX4_type_49 ?_
      exact hO (b01_1 h8) hlt
    · refine T_bipush (v := -3) dX4_type_22 (by decide) ?_
      refine T_iret rfl dX4_type_24 ?_
      exact hF (b01_1 h8) (fun z => by rw [hs] at h19; have := nIe h19 (by omega) (by decide); omega)
  · refine T_iconst (v := -1) dX4_type_11 rfl ?_
    refine T_iret rfl dX4_type_12 ?_
    exact hB (b01_0 h8)
set_option maxHeartbeats 4000000 in
set_option maxRecDepth 100000 in
theorem k_X4_clear {X : Cx} {l : Launch} {σ0 : Hp} {h : Rg} (hv4 : Lv X 4 0) : Con X l yX4_clear cX4_clear 2 (some .int) 0 [.ref (adr X 4 0 0)] (setR σ0 4 0 h) (Ex (some (.int (h 0 8))) (setR σ0 4 0 (up2 h 0 8 (nI 0)))) := by
  refine Con_of [some (.ref (adr X 4 0 0)), none] (by decide) rfl (Nat.le_of_ble_eq_true rfl) ?_
  refine T_aload_n dX4_clear_0 rfl rfl ?_
  refine T_g4F hv4 8 (by decide) fl_X4_60 rfl dX4_clear_1 ?_
  refine T_istore1 dX4_clear_4 rfl (by decide) ?_
  refine T_aload_n dX4_clear_5 rfl rfl ?_
  refine T_iconst (v := nI 0) dX4_clear_6 rfl ?_
  refine T_p4F hv4 8 (by decide) rfl rfl fl_X4_60 (by decide) rfl dX4_clear_7 ?_
  refine T_iload_n dX4_clear_10 rfl rfl ?_
  refine T_iret rfl dX4_clear_11 ?_
  exact ⟨rfl, rfl⟩
theorem nb1 {A B : Prop} (h : ¬ A) : ¬ (A ∧ B) := fun q => h q.1
theorem nb2 {A B : Prop} (h : ¬ B) : ¬ (A ∧ B) := fun q => h q.2
theorem nlt_of {p len : Nat} (hl : len < 2 ^ 31) (h : nI len ≤ nI p) : ¬ p < len := fun z => nI_ge z hl h
theorem dec_i (x : Int32) : x + Int32.ofInt (-1) = x - nI 1 := (Int32.sub_eq_add_neg x (nI 1)).symm
set_option maxHeartbeats 4000000 in
set_option maxRecDepth 100000 in
theorem k_X4_isLetter {X : Cx} {l : Launch} {σ0 : Hp} {h : Rg} {len p : Nat} {k s v : Int32} (hv4 : Lv X 4 0) (hl : h 0 8 = nI len) (hl8 : len ≤ 80) (hpb : p < 2 ^ 31) : Con X l yX4_isLetter cX4_isLetter 1 (some .boolean) 1 [.ref (adr X 4 0 0)] (setR σ0 4 0 (stN h (nI p) k s v)) (Ex (some (.int (if p < len ∧ isL (h 7 p) then nI 1 else nI 0))) (setR σ0 4 0 (stN h (nI p) k s v))) := by
  refine Con_of [some (.ref (adr X 4 0 0))] (by decide) rfl (Nat.le_of_ble_eq_true rfl) ?_
  have hl9 : len < 2 ^ 31 := by omega
  refine T_aload_n dX4_isLetter_0 rfl rfl ?_
  refine T_g4F (v := .int (nI p)) hv4 9 (by decide) fl_X4_57 rfl dX4_isLetter_1 ?_
  refine T_aload_n dX4_isLetter_4 rfl rfl ?_
  refine T_g4F (v := .int (nI len)) hv4 8 (by decide) fl_X4_60 (congrArg (fun z => some (Value.int z)) hl) dX4_isLetter_5 ?_
  refine T_icmp_ge 34 dX4_isLetter_8 (by decide) (fun h8 => ?_) (fun h8 => ?_)
  · refine T_iconst (v := nI 0) dX4_isLetter_34 rfl ?_
    refine T_zret (ty := .boolean) rfl (by decide) dX4_isLetter_35 ?_
    first | (refine ⟨?_, rfl⟩; rw [if_pos (And.intro hpl (b01_1 h27))]) | (refine ⟨?_, rfl⟩; rw [if_neg (nb2 (b01_0 h27))]) | (refine ⟨?_, rfl⟩; rw [if_neg (nb1 (nlt_of hl9 h8))])
  · have hpl : p < len := Classical.byContradiction fun z => h8 (nI_le (by omega) (by omega))
    refine T_aload_n dX4_isLetter_11 rfl rfl ?_
    refine T_g4F hv4 7 (by decide) fl_X4_29 rfl dX4_isLetter_12 ?_
    refine T_aload_n dX4_isLetter_15 rfl rfl ?_
    refine T_g4F (v := .int (nI p)) hv4 9 (by decide) fl_X4_57 rfl dX4_isLetter_16 ?_
    refine T_iald (g := h 7) (by rw [setR_self]; rfl) (hv4 7 (by decide)) rfl (n := 80) (by decide) p (by omega) rfl dX4_isLetter_19 ?_
    refine T_bipush (v := nI 97) dX4_isLetter_20 (by decide) ?_
    refine T_bipush (v := nI 122) dX4_isLetter_22 (by decide) ?_
    refine T_si k_X4_in ml_X4_63 sm_yX4_in ini_RX4 co_yX4_in de_X4_in (by decide) (by decide) rfl (Nat.le_of_ble_eq_true rfl) dX4_isLetter_24 ?_
    refine T_if_eq 34 dX4_isLetter_27 (by decide) (fun h27 => ?_) (fun h27 => ?_)
    · refine T_iconst (v := nI 0) dX4_isLetter_34 rfl ?_
      refine T_zret (ty := .boolean) rfl (by decide) dX4_isLetter_35 ?_
      first | (refine ⟨?_, rfl⟩; rw [if_pos (And.intro hpl (b01_1 h27))]) | (refine ⟨?_, rfl⟩; rw [if_neg (nb2 (b01_0 h27))]) | (refine ⟨?_, rfl⟩; rw [if_neg (nb1 (nlt_of hl9 h8))])
    · refine T_iconst (v := nI 1) dX4_isLetter_30 rfl ?_
      refine T_goto 35 dX4_isLetter_31 (by decide) ?_
      refine T_zret (ty := .boolean) rfl (by decide) dX4_isLetter_35 ?_
      first | (refine ⟨?_, rfl⟩; rw [if_pos (And.intro hpl (b01_1 h27))]) | (refine ⟨?_, rfl⟩; rw [if_neg (nb2 (b01_0 h27))]) | (refine ⟨?_, rfl⟩; rw [if_neg (nb1 (nlt_of hl9 h8))])
set_option maxHeartbeats 4000000 in
set_option maxRecDepth 100000 in
theorem k_X4_isDigit {X : Cx} {l : Launch} {σ0 : Hp} {h : Rg} {len p : Nat} {k s v : Int32} (hv4 : Lv X 4 0) (hl : h 0 8 = nI len) (hl8 : len ≤ 80) (hpb : p < 2 ^ 31) : Con X l yX4_isDigit cX4_isDigit 1 (some .boolean) 1 [.ref (adr X 4 0 0)] (setR σ0 4 0 (stN h (nI p) k s v)) (Ex (some (.int (if p < len ∧ isF (h 7 p) then nI 1 else nI 0))) (setR σ0 4 0 (stN h (nI p) k s v))) := by
  refine Con_of [some (.ref (adr X 4 0 0))] (by decide) rfl (Nat.le_of_ble_eq_true rfl) ?_
  have hl9 : len < 2 ^ 31 := by omega
  refine T_aload_n dX4_isDigit_0 rfl rfl ?_
  refine T_g4F (v := .int (nI p)) hv4 9 (by decide) fl_X4_57 rfl dX4_isDigit_1 ?_
  refine T_aload_n dX4_isDigit_4 rfl rfl ?_
  refine T_g4F (v := .int (nI len)) hv4 8 (by decide) fl_X4_60 (congrArg (fun z => some (Value.int z)) hl) dX4_isDigit_5 ?_
  refine T_icmp_ge 34 dX4_isDigit_8 (by decide) (fun h8 => ?_) (fun h8 => ?_)
  · refine T_iconst (v := nI 0) dX4_isDigit_34 rfl ?_
    refine T_zret (ty := .boolean) rfl (by decide) dX4_isDigit_35 ?_
    first | (refine ⟨?_, rfl⟩; rw [if_pos (And.intro hpl (b01_1 h27))]) | (refine ⟨?_, rfl⟩; rw [if_neg (nb2 (b01_0 h27))]) | (refine ⟨?_, rfl⟩; rw [if_neg (nb1 (nlt_of hl9 h8))])
  · have hpl : p < len := Classical.byContradiction fun z => h8 (nI_le (by omega) (by omega))
    refine T_aload_n dX4_isDigit_11 rfl rfl ?_
    refine T_g4F hv4 7 (by decide) fl_X4_29 rfl dX4_isDigit_12 ?_
    refine T_aload_n dX4_isDigit_15 rfl rfl ?_
    refine T_g4F (v := .int (nI p)) hv4 9 (by decide) fl_X4_57 rfl dX4_isDigit_16 ?_
    refine T_iald (g := h 7) (by rw [setR_self]; rfl) (hv4 7 (by decide)) rfl (n := 80) (by decide) p (by omega) rfl dX4_isDigit_19 ?_
    refine T_bipush (v := nI 48) dX4_isDigit_20 (by decide) ?_
    refine T_bipush (v := nI 57) dX4_isDigit_22 (by decide) ?_
    refine T_si k_X4_in ml_X4_63 sm_yX4_in ini_RX4 co_yX4_in de_X4_in (by decide) (by decide) rfl (Nat.le_of_ble_eq_true rfl) dX4_isDigit_24 ?_
    refine T_if_eq 34 dX4_isDigit_27 (by decide) (fun h27 => ?_) (fun h27 => ?_)
    · refine T_iconst (v := nI 0) dX4_isDigit_34 rfl ?_
      refine T_zret (ty := .boolean) rfl (by decide) dX4_isDigit_35 ?_
      first | (refine ⟨?_, rfl⟩; rw [if_pos (And.intro hpl (b01_1 h27))]) | (refine ⟨?_, rfl⟩; rw [if_neg (nb2 (b01_0 h27))]) | (refine ⟨?_, rfl⟩; rw [if_neg (nb1 (nlt_of hl9 h8))])
    · refine T_iconst (v := nI 1) dX4_isDigit_30 rfl ?_
      refine T_goto 35 dX4_isDigit_31 (by decide) ?_
      refine T_zret (ty := .boolean) rfl (by decide) dX4_isDigit_35 ?_
      first | (refine ⟨?_, rfl⟩; rw [if_pos (And.intro hpl (b01_1 h27))]) | (refine ⟨?_, rfl⟩; rw [if_neg (nb2 (b01_0 h27))]) | (refine ⟨?_, rfl⟩; rw [if_neg (nb1 (nlt_of hl9 h8))])
theorem pm1_lt {a : Nat} (h : a < 2 ^ 30) : nI a - nI 1 < nI a := by
  rw [Int32.lt_iff_toInt_lt, pk_sub_toInt h (by decide), nI_toInt (by omega)]
  omega
set_option maxHeartbeats 4000000 in
set_option maxRecDepth 100000 in
theorem k_X4_wordToken {X : Cx} {l : Launch} {σ0 : Hp} {h : Rg} {s e : Nat} {k v : Int32} (hv4 : Lv X 4 0) (hse : s ≤ e) (he : e ≤ 80) (hL : ∀ j, s ≤ j → j < e → isL (h 7 j)) : Con X l yX4_wordToken cX4_wordToken 4 (some .int) 0 [.ref (adr X 4 0 0)] (setR σ0 4 0 (stN h (nI e) k (nI s) v)) (Ex (some (.int (kc (wK (h 7) s e)))) (setR σ0 4 0 (stN h (nI e) k (nI s) v))) := by
  refine Con_of [some (.ref (adr X 4 0 0)), none, none, none] (by decide) rfl (Nat.le_of_ble_eq_true rfl) ?_
  have hend : ∀ (n : Nat) (z : Option Value), (n = e - s ∧ e - s < 9) ∨ (n = 0 ∧ 9 ≤ e - s) → T X l yX4_wordToken cX4_wordToken 4 (some .int) 0 57 [some (.ref (adr X 4 0 0)), some (.long (Int64.ofNat (wN (h 7) n s))), none, z] [] (setR σ0 4 0 (stN h (nI e) k (nI s) v)) (Ex (some (.int (kc (wK (h 7) s e)))) (setR σ0 4 0 (stN h (nI e) k (nI s) v))) := by
    intro n z hn
    have hLn : ∀ j, j < n → isL (h 7 (s + j)) := fun j hj => hL (s + j) (by omega) (by omega)
    have hw1 : wN (h 7) n s < 2 ^ 60 := Nat.lt_of_lt_of_le (wN_lt (h 7) n s hLn) (Nat.le_trans (Nat.pow_le_pow_right (by decide) (show n ≤ 12 by omega)) (by decide))
    have hc0 : Int64.ofNat (wN (h 7) n s) = 643088867 ↔ wIs 0 (h 7) s e := by
      rcases hn with ⟨rfl, h9⟩ | ⟨rfl, h9⟩
      · have := wN_is0 (h 7) s (e - s) hLn
        rw [show s + (e - s) = e by omega] at this
        rw [← this]
        exact ⟨fun z => ofN64 hw1 (by decide) z, fun z => by rw [z]; rfl⟩
      · exact ⟨fun z => absurd z (by rw [wN]; decide), fun z => by have := z.1; omega⟩
    have hc1 : Int64.ofNat (wN (h 7) n s) = 642209250 ↔ wIs 1 (h 7) s e := by
      rcases hn with ⟨rfl, h9⟩ | ⟨rfl, h9⟩
      · have := wN_is1 (h 7) s (e - s) hLn
        rw [show s + (e - s) = e by omega] at this
        rw [← this]
        exact ⟨fun z => ofN64 hw1 (by decide) z, fun z => by rw [z]; rfl⟩
      · exact ⟨fun z => absurd z (by rw [wN]; decide), fun z => by have := z.1; omega⟩
    refine T_lload_n dX4_wordToken_57 rfl rfl ?_
    refine T_ldc2 con_RX4_74__643088867_ dX4_wordToken_58 ?_
    refine T_lcmp dX4_wordToken_61 ?_
    refine T_if_ne 71 dX4_wordToken_62 (by decide) (fun h62 => ?_) (fun h62 => ?_)
    · refine T_lload_n dX4_wordToken_71 rfl rfl ?_
      refine T_ldc2 con_RX4_76__642209250_ dX4_wordToken_72 ?_
      refine T_lcmp dX4_wordToken_75 ?_
      refine T_if_ne 85 dX4_wordToken_76 (by decide) (fun h76 => ?_) (fun h76 => ?_)
      · refine T_sipush (v := nI 1001) dX4_wordToken_85 (by decide) ?_
        refine T_iret rfl dX4_wordToken_88 ?_
        first | (refine ⟨?_, rfl⟩; rw [wK, if_pos (hc0.mp ((lg_cmp_eq _ _).mp h62))]; rfl) | (refine ⟨?_, rfl⟩; rw [wK, if_neg (fun z => h62 ((lg_cmp_eq _ _).mpr (hc0.mpr z))), if_pos (hc1.mp ((lg_cmp_eq _ _).mp h76))]; rfl) | (refine ⟨?_, rfl⟩; rw [wK, if_neg (fun z => h62 ((lg_cmp_eq _ _).mpr (hc0.mpr z))), if_neg (fun z => h76 ((lg_cmp_eq _ _).mpr (hc1.mpr z)))]; rfl)
      · refine T_sipush (v := nI 1004) dX4_wordToken_79 (by decide) ?_
        refine T_goto 88 dX4_wordToken_82 (by decide) ?_
        refine T_iret rfl dX4_wordToken_88 ?_
        first | (refine ⟨?_, rfl⟩; rw [wK, if_pos (hc0.mp ((lg_cmp_eq _ _).mp h62))]; rfl) | (refine ⟨?_, rfl⟩; rw [wK, if_neg (fun z => h62 ((lg_cmp_eq _ _).mpr (hc0.mpr z))), if_pos (hc1.mp ((lg_cmp_eq _ _).mp h76))]; rfl) | (refine ⟨?_, rfl⟩; rw [wK, if_neg (fun z => h62 ((lg_cmp_eq _ _).mpr (hc0.mpr z))), if_neg (fun z => h76 ((lg_cmp_eq _ _).mpr (hc1.mpr z)))]; rfl)
    · refine T_sipush (v := nI 1003) dX4_wordToken_65 (by decide) ?_
      refine T_goto 88 dX4_wordToken_68 (by decide) ?_
      refine T_iret rfl dX4_wordToken_88 ?_
      first | (refine ⟨?_, rfl⟩; rw [wK, if_pos (hc0.mp ((lg_cmp_eq _ _).mp h62))]; rfl) | (refine ⟨?_, rfl⟩; rw [wK, if_neg (fun z => h62 ((lg_cmp_eq _ _).mpr (hc0.mpr z))), if_pos (hc1.mp ((lg_cmp_eq _ _).mp h76))]; rfl) | (refine ⟨?_, rfl⟩; rw [wK, if_neg (fun z => h62 ((lg_cmp_eq _ _).mpr (hc0.mpr z))), if_neg (fun z => h76 ((lg_cmp_eq _ _).mpr (hc1.mpr z)))]; rfl)
  by_cases h9 : e - s < 9
  · skip
    have hlp : ∀ (n p : Nat), s + n = p → p ≤ e → T X l yX4_wordToken cX4_wordToken 4 (some .int) 0 9 [some (.ref (adr X 4 0 0)), some (.long (Int64.ofNat (wN (h 7) (e - p) p))), none, some (.int (nI p - nI 1))] [] (setR σ0 4 0 (stN h (nI e) k (nI s) v)) (Ex (some (.int (kc (wK (h 7) s e)))) (setR σ0 4 0 (stN h (nI e) k (nI s) v))) := by
      intro n
      induction n with
      | zero =>
        intro p hp hpe
        have hp : s = p := by omega
        subst hp
        have hlt : nI s - nI 1 < nI s := pm1_lt (by omega)
        refine T_iload_n dX4_wordToken_9 rfl rfl ?_
        refine T_aload_n dX4_wordToken_10 rfl rfl ?_
        refine T_g4F (v := .int (nI s)) hv4 11 (by decide) fl_X4_67 rfl dX4_wordToken_11 ?_
        refine T_icmp_lt 57 dX4_wordToken_14 (by decide) (fun h14 => ?_) (fun h14 => (absurd hlt h14))
        exact hend (e - s) _ (Or.inl ⟨rfl, h9⟩)
      | succ n ih =>
        intro p hp hpe
        obtain ⟨r, rfl⟩ : ∃ r, p = r + 1 := ⟨p - 1, by omega⟩
        have hnx := ih r (by omega) (by omega)
        rw [show e - r = e - (r + 1) + 1 by omega, ← wN_step (h 7) _ r (hL r (by omega) (by omega))] at hnx
        have e5 : nI (r + 1) - nI 1 = nI r := by rw [pk_sub (by omega)]; rfl
        rw [e5]
        refine T_iload_n dX4_wordToken_9 rfl rfl ?_
        refine T_aload_n dX4_wordToken_10 rfl rfl ?_
        refine T_g4F (v := .int (nI s)) hv4 11 (by decide) fl_X4_67 rfl dX4_wordToken_11 ?_
        refine T_icmp_lt 57 dX4_wordToken_14 (by decide) (fun h14 => (absurd h14 (Int32.not_lt.mpr (nI_le (by omega) (by omega))))) (fun h14 => ?_)
        refine T_aload_n dX4_wordToken_17 rfl rfl ?_
        refine T_g4F (v := .int (nI e)) hv4 9 (by decide) fl_X4_57 rfl dX4_wordToken_18 ?_
        refine T_aload_n dX4_wordToken_21 rfl rfl ?_
        refine T_g4F (v := .int (nI s)) hv4 11 (by decide) fl_X4_67 rfl dX4_wordToken_22 ?_
        refine T_isub dX4_wordToken_25 ?_
        refine T_bipush (v := nI 9) dX4_wordToken_26 (by decide) ?_
        refine T_icmp_ge 57 dX4_wordToken_28 (by decide) (fun h28 => (absurd h28 (by rw [pk_sub (by omega)]; exact nI_ge h9 (by decide)))) (fun h28 => ?_)
        refine T_ldc2 con_RX4_70__32_ dX4_wordToken_31 ?_
        refine T_lload_n dX4_wordToken_34 rfl rfl ?_
        refine T_lmul dX4_wordToken_35 ?_
        refine T_aload_n dX4_wordToken_36 rfl rfl ?_
        refine T_g4F hv4 7 (by decide) fl_X4_29 rfl dX4_wordToken_37 ?_
        refine T_iload_n dX4_wordToken_40 rfl rfl ?_
        refine T_iald (g := h 7) (by rw [setR_self]; rfl) (hv4 7 (by decide)) rfl (n := 80) (by decide) r (by omega) rfl dX4_wordToken_41 ?_
        refine T_i2l dX4_wordToken_42 ?_
        refine T_ladd dX4_wordToken_43 ?_
        refine T_ldc2 con_RX4_72__97_ dX4_wordToken_44 ?_
        refine T_lsub dX4_wordToken_47 ?_
        refine T_lconst (v := 1) dX4_wordToken_48 rfl ?_
        refine T_ladd dX4_wordToken_49 ?_
        refine T_lstore1 dX4_wordToken_50 rfl (by decide) ?_
        refine T_iinc3 (v := nI r - nI 1) dX4_wordToken_51 (dec_i _) rfl (by decide) ?_
        refine T_goto 9 dX4_wordToken_54 (by decide) ?_
        exact hnx
    refine T_lconst (v := Int64.ofNat 0) dX4_wordToken_0 rfl ?_
    refine T_lstore1 dX4_wordToken_1 rfl (by decide) ?_
    refine T_aload_n dX4_wordToken_2 rfl rfl ?_
    refine T_g4F (v := .int (nI e)) hv4 9 (by decide) fl_X4_57 rfl dX4_wordToken_3 ?_
    refine T_iconst (v := nI 1) dX4_wordToken_6 rfl ?_
    refine T_isub dX4_wordToken_7 ?_
    refine T_istore3 dX4_wordToken_8 rfl (by decide) ?_
    have h0 := hlp (e - s) e (by omega) (Nat.le_refl _)
    rw [Nat.sub_self] at h0
    exact h0
  · skip
    refine T_lconst (v := Int64.ofNat 0) dX4_wordToken_0 rfl ?_
    refine T_lstore1 dX4_wordToken_1 rfl (by decide) ?_
    refine T_aload_n dX4_wordToken_2 rfl rfl ?_
    refine T_g4F (v := .int (nI e)) hv4 9 (by decide) fl_X4_57 rfl dX4_wordToken_3 ?_
    refine T_iconst (v := nI 1) dX4_wordToken_6 rfl ?_
    refine T_isub dX4_wordToken_7 ?_
    refine T_istore3 dX4_wordToken_8 rfl (by decide) ?_
    refine T_iload_n dX4_wordToken_9 rfl rfl ?_
    refine T_aload_n dX4_wordToken_10 rfl rfl ?_
    refine T_g4F (v := .int (nI s)) hv4 11 (by decide) fl_X4_67 rfl dX4_wordToken_11 ?_
    refine T_icmp_lt 57 dX4_wordToken_14 (by decide) (fun h14 => ?_) (fun h14 => ?_)
    · exact hend 0 _ (Or.inr ⟨rfl, by omega⟩)
    · refine T_aload_n dX4_wordToken_17 rfl rfl ?_
      refine T_g4F (v := .int (nI e)) hv4 9 (by decide) fl_X4_57 rfl dX4_wordToken_18 ?_
      refine T_aload_n dX4_wordToken_21 rfl rfl ?_
      refine T_g4F (v := .int (nI s)) hv4 11 (by decide) fl_X4_67 rfl dX4_wordToken_22 ?_
      refine T_isub dX4_wordToken_25 ?_
      refine T_bipush (v := nI 9) dX4_wordToken_26 (by decide) ?_
      refine T_icmp_ge 57 dX4_wordToken_28 (by decide) (fun h28 => ?_) (fun h28 => (absurd (by rw [pk_sub (by omega)]; exact nI_le (by omega) (by omega)) h28))
      exact hend 0 _ (Or.inr ⟨rfl, by omega⟩)
