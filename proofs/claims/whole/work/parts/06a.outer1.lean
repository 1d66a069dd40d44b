/-! ===== the outer class ===== -/
def LVs (X : Cx) : Prop := Lv X 0 0 ∧ (∀ r, r < 12 → Lv X 1 r) ∧ Lv X 2 0 ∧ Lv X 3 0
def nX (σ : Hp) : Nat := (σ 2 0 0 1).toNatClampNeg
def kN (σ : Hp) : Nat := (σ 2 0 0 2).toNatClampNeg
def tL (σ : Hp) : Nat := (σ 3 0 0 1).toNatClampNeg
def sN (σ : Hp) : Nat := (σ 0 0 0 8).toNatClampNeg
/-- the class's numbers are in range -/
def CW (σ : Hp) : Prop := Wf (σ 1 0) ∧ (σ 2 0 0 1 = nI (nX σ) ∧ nX σ < 8) ∧ (σ 2 0 0 2 = nI (kN σ) ∧ kN σ ≤ 8) ∧ (σ 3 0 0 1 = nI (tL σ) ∧ tL σ ≤ 80) ∧ (σ 0 0 0 8 = nI (sN σ) ∧ sN σ ≤ 6)
abbrev isCp (h : Rg) (c : Int32) : Prop := ¬ c < 0 ∧ ¬ h 0 0 ≤ c
abbrev arP (h : Rg) (a c : Int32) : Prop := isCp h a ∧ isCp h c ∧ ¬ a = c
theorem isCp_i {h : Rg} (hw : Wf h) {c : Int32} (q : isCp h c) : ∃ i, i < nC h ∧ c = nI i := by
  obtain ⟨j, hj, rfl⟩ := nI_of q.1
  refine ⟨j, ?_, rfl⟩
  have := q.2
  rw [hw.1] at this
  exact Nat.lt_of_not_le fun z => this (nI_le z hj)
theorem isCp_of {h : Rg} (hw : Wf h) {i : Nat} (hi : i < nC h) : isCp h (nI i) := by
  have := hw.2.2.1
  refine ⟨nI_pos (by omega), ?_⟩
  rw [hw.1]
  exact nI_ge hi (by omega)
/-- what a call that is done leaves: the ledger is remembered, then h' is the ledger -/
def doS (σ : Hp) (h' : Rg) : Hp := setR (remS σ (nX σ) (kN σ)) 1 0 h'
theorem rem_10 (σ : Hp) (nx kn : Nat) : remS σ nx kn 1 0 = σ 1 0 := by
  unfold remS
  rw [setR_ne (by omega), setR_ne (by omega)]
theorem con_un {X : Cx} {l : Launch} {y : MethodName} {cc : ByteArray} {nL : Nat} {ret : Option FieldType} {d : Nat} {As : List Value} {σ : Hp} {K r : Nat} {h h' : Rg} {a : Option Value} (he : σ K r = h) (hc : Con X l y cc nL ret d As (setR σ K r h) (Ex a (setR σ K r h'))) : Con X l y cc nL ret d As σ (Ex a (setR σ K r h')) := by
  rw [← he, setR_id] at hc
  exact hc
/-- a ledger's method that leaves it as it was -/
theorem con_uq {X : Cx} {l : Launch} {y : MethodName} {cc : ByteArray} {nL : Nat} {ret : Option FieldType} {d : Nat} {As : List Value} {σ : Hp} {K r : Nat} {h : Rg} {a : Option Value} (he : σ K r = h) (hc : Con X l y cc nL ret d As (setR σ K r h) (Ex a (setR σ K r h))) : Con X l y cc nL ret d As σ (Ex a σ) := by
  rw [← he, setR_id] at hc
  exact hc
/-- but for what is only tried out -/
def JK (σ u : Hp) : Prop := ∃ (g : Rg) (a : Nat → Int32), u = setR (setR σ 1 1 g) 0 0 (up1 (σ 0 0) 5 a)
theorem JK.rf (σ : Hp) : JK σ σ := ⟨σ 1 1, σ 0 0 5, by rw [setR_id, up1_id, setR_id]⟩
def jk (σ : Hp) (g : Rg) (a : Nat → Int32) : Hp := setR (setR σ 1 1 g) 0 0 (up1 (σ 0 0) 5 a)
theorem jk_1 (σ : Hp) (g g' : Rg) (a : Nat → Int32) : setR (jk σ g a) 1 1 g' = jk σ g' a := by
  funext K r
  unfold jk setR
  by_cases h1 : K = 1 ∧ r = 1
  · have h2 : ¬ (K = 0 ∧ r = 0) := by omega
    rw [if_pos h1, if_neg h2, if_pos h1]
  · rw [if_neg h1]
    by_cases h2 : K = 0 ∧ r = 0
    · rw [if_pos h2, if_pos h2]
    · rw [if_neg h2, if_neg h2, if_neg h1, if_neg h1]
theorem jk_0 (σ : Hp) (g : Rg) (a : Nat → Int32) (j : Nat) (x : Int32) : setR (jk σ g a) 0 0 (up2 (jk σ g a 0 0) 5 j x) = jk σ g (upd a j x) := by
  have e : jk σ g a 0 0 = up1 (σ 0 0) 5 a := setR_self _ _ _ _
  rw [e]
  unfold jk
  rw [setR_setR, up2_of1]
theorem jk_rf (σ : Hp) : jk σ (σ 1 1) (σ 0 0 5) = σ := by
  unfold jk; rw [setR_id, up1_id, setR_id]
theorem jk_JK (σ : Hp) (g : Rg) (a : Nat → Int32) : JK σ (jk σ g a) := ⟨g, a, rfl⟩
/-- an answer, and nothing changed but what is only tried out -/
def ExJ (x : Int32) (σ : Hp) : Option Value → Hp → Prop := fun r u => r = some (.int x) ∧ JK σ u
def ExA (x : Int32) (σ : Hp) (a : Nat → Int32) : Option Value → Hp → Prop := fun r u => r = some (.int x) ∧ ∃ g, u = jk σ g a
section OUTR
variable {X : Cx} {l : Launch} {y : MethodName} {cc : ByteArray} {nL : Nat} {ret : Option FieldType} {d pc : Nat} {ls : List (Option Value)} {st rest : List Value} {σ u : Hp} {Q : Option Value → Hp → Prop} {g : Rg} {a : Nat → Int32}
/-- a call that answers and may have tried out something -/
theorem T_vj {C : String} {index d2 nL2 b : Nat} {y2 : MethodName} {cc2 : ByteArray} {ret2 : Option FieldType} {As : List Value} {x : Int32} (hrec : Rc X (jk σ g a) b C) (hC : Con X l y2 cc2 nL2 ret2 d2 (.ref b :: As) (jk σ g a) (ExJ x σ)) (h1 : Cond.methodLink y.cls index y2 ∈ tb) (h2 : Cond.instanceMethod y2 ∈ tb) (h3 : Cond.selects C y2 y2 ∈ tb) (h4 : Cond.initialized C ∈ tb) (h5 : Cond.code y2 cc2 nL2 ret2 ∈ tb) (hyC : y2.cls = C)
    (hde : y2.cls ≠ "java/lang/invoke/MethodHandle" ∧ y2.cls ≠ "java/lang/invoke/VarHandle" ∧ (parseMethodDescriptor y2.desc).map (fun d => d.parameters.length) = some As.length) (hd2 : d2 + 1 ≤ d) (hn2 : nL2 ≤ 17) (hst : st = As.reverse ++ .ref b :: rest) (hW : (rest.map fun v => v.category).sum ≤ 8) (hdg : decode cc pc = .ok (.invokevirtual index, 3))
    (k : ∀ (g : Rg) (a : Nat → Int32), T X l y cc nL ret d (pc + 3) ls (.int x :: rest) (jk σ g a) Q) : T X l y cc nL ret d pc ls st (jk σ g a) Q :=
  T_callV hrec hC h1 h2 h3 h4 h5 hyC hde hd2 hn2 hst hW hdg (by rintro _ _ ⟨rfl, g, a, rfl⟩; exact k g a)
theorem T_va {C : String} {index d2 nL2 b : Nat} {y2 : MethodName} {cc2 : ByteArray} {ret2 : Option FieldType} {As : List Value} {x : Int32} (hrec : Rc X (jk σ g a) b C) (hC : Con X l y2 cc2 nL2 ret2 d2 (.ref b :: As) (jk σ g a) (ExA x σ a)) (h1 : Cond.methodLink y.cls index y2 ∈ tb) (h2 : Cond.instanceMethod y2 ∈ tb) (h3 : Cond.selects C y2 y2 ∈ tb) (h4 : Cond.initialized C ∈ tb) (h5 : Cond.code y2 cc2 nL2 ret2 ∈ tb) (hyC : y2.cls = C)
    (hde : y2.cls ≠ "java/lang/invoke/MethodHandle" ∧ y2.cls ≠ "java/lang/invoke/VarHandle" ∧ (parseMethodDescriptor y2.desc).map (fun d => d.parameters.length) = some As.length) (hd2 : d2 + 1 ≤ d) (hn2 : nL2 ≤ 17) (hst : st = As.reverse ++ .ref b :: rest) (hW : (rest.map fun v => v.category).sum ≤ 8) (hdg : decode cc pc = .ok (.invokevirtual index, 3))
    (k : ∀ (g : Rg), T X l y cc nL ret d (pc + 3) ls (.int x :: rest) (jk σ g a) Q) : T X l y cc nL ret d pc ls st (jk σ g a) Q :=
  T_callV hrec hC h1 h2 h3 h4 h5 hyC hde hd2 hn2 hst hW hdg (by rintro _ _ ⟨rfl, g, rfl⟩; exact k g)
theorem con_uj {As : List Value} {x : Int32} {h : Rg} (he : jk σ g a 1 0 = h) (hc : Con X l y cc nL ret d As (setR (jk σ g a) 1 0 h) (Ex (some (.int x)) (setR (jk σ g a) 1 0 h))) : Con X l y cc nL ret d As (jk σ g a) (Ex (some (.int x)) (jk σ g a)) := by
  rw [← he, setR_id] at hc
  exact hc
end OUTR
/-- what the copy c would be seen as -/
def ansS (h : Rg) (c : Nat) (w : Int32) : Int32 := if w = nI 0 then wSum (h 10) (h 4 c) (nW h) else if w = nI 1 then slowS h c else if w = nI 2 then nI (readS h c).2 else -9
def fitS (h : Rg) (sw sv : Nat → Int32) (n c : Nat) : Prop := ∀ i, i < n → ansS h c (sw i) = sv i
noncomputable def whiS (h : Rg) (sw sv : Nat → Int32) (n : Nat) : Nat → Int32
  | 0 => nI 0
  | c + 1 => @ite _ (fitS h sw sv n c) (Classical.propDecidable _) (whiS h sw sv n c ||| (nI 1 <<< (nI c &&& 31))) (whiS h sw sv n c)
/-- how many of the copies below n, of those in f, are seen as x -/
def alkS (an : Nat → Int32) (f x : Int32) : Nat → Nat
  | 0 => 0
  | c + 1 => if bit f c then (if an c = x then alkS an f x c + 1 else alkS an f x c) else alkS an f x c
def mosS (an : Nat → Int32) (f : Int32) (N : Nat) : Nat → Int32
  | 0 => nI 0
  | c + 1 => if bit f c then (if mosS an f N c < nI (alkS an f (an c) N) then nI (alkS an f (an c) N) else mosS an f N c) else mosS an f N c
theorem tab_in {k : Nat} (hk : k < 16) : (nI k).toInt = (k : Int) := nI_toInt (by omega)

theorem cn3 {A B C : Prop} (h : C) : ¬ (A ∧ B ∧ ¬ C) := fun q => q.2.2 h
set_option maxHeartbeats 4000000 in
set_option maxRecDepth 100000 in
theorem k_X3_isCopy {X : Cx} {l : Launch} {σ : Hp} {c : Int32} (hL : LVs X) : Con X l yX3_isCopy cX3_isCopy 2 (some .boolean) 0 [.ref (adr X 0 0 0), .int c] σ (Ex (some (.int (if isCp (σ 1 0) c then nI 1 else nI 0))) σ) := by
  refine Con_of [some (.ref (adr X 0 0 0)), some (.int c)] (by decide) rfl (Nat.le_of_ble_eq_true rfl) ?_
  obtain ⟨hv0, hvA, hv2, hv3⟩ := hL
  have hv1 := hvA 0 (by decide)
  have hvt := hvA 1 (by decide)
  refine T_iload_n dX3_isCopy_0 rfl rfl ?_
  refine T_if_lt 19 dX3_isCopy_1 (by decide) (fun h1 => ?_) (fun h1 => ?_)
  · refine T_iconst (v := nI 0) dX3_isCopy_19 rfl ?_
    refine T_zret (ty := .boolean) rfl (by decide) dX3_isCopy_20 ?_
    first | (refine ⟨?_, rfl⟩; rw [if_neg (nan1 h1)]) | (refine ⟨?_, rfl⟩; rw [if_neg (nan2 h12)]) | (refine ⟨?_, rfl⟩; rw [if_pos (And.intro h1 h12)])
  · refine T_iload_n dX3_isCopy_4 rfl rfl ?_
    refine T_aload_n dX3_isCopy_5 rfl rfl ?_
    refine T_g0 hv0 0 (by decide) fl_X3_10 rfl dX3_isCopy_6 ?_
    refine T_g1 hv1 0 (by decide) fl_X3_183 rfl dX3_isCopy_9 ?_
    refine T_icmp_ge 19 dX3_isCopy_12 (by decide) (fun h12 => ?_) (fun h12 => ?_)
    · refine T_iconst (v := nI 0) dX3_isCopy_19 rfl ?_
      refine T_zret (ty := .boolean) rfl (by decide) dX3_isCopy_20 ?_
      first | (refine ⟨?_, rfl⟩; rw [if_neg (nan1 h1)]) | (refine ⟨?_, rfl⟩; rw [if_neg (nan2 h12)]) | (refine ⟨?_, rfl⟩; rw [if_pos (And.intro h1 h12)])
    · refine T_iconst (v := nI 1) dX3_isCopy_15 rfl ?_
      refine T_goto 20 dX3_isCopy_16 (by decide) ?_
      refine T_zret (ty := .boolean) rfl (by decide) dX3_isCopy_20 ?_
      first | (refine ⟨?_, rfl⟩; rw [if_neg (nan1 h1)]) | (refine ⟨?_, rfl⟩; rw [if_neg (nan2 h12)]) | (refine ⟨?_, rfl⟩; rw [if_pos (And.intro h1 h12)])
set_option maxHeartbeats 4000000 in
set_option maxRecDepth 100000 in
theorem k_X3_arePair {X : Cx} {l : Launch} {σ : Hp} {a c : Int32} (hL : LVs X) : Con X l yX3_arePair cX3_arePair 3 (some .boolean) 1 [.ref (adr X 0 0 0), .int a, .int c] σ (Ex (some (.int (if arP (σ 1 0) a c then nI 1 else nI 0))) σ) := by
  refine Con_of [some (.ref (adr X 0 0 0)), some (.int a), some (.int c)] (by decide) rfl (Nat.le_of_ble_eq_true rfl) ?_
  have hL0 := hL
  obtain ⟨hv0, hvA, hv2, hv3⟩ := hL
  have hv1 := hvA 0 (by decide)
  have hvt := hvA 1 (by decide)
  refine T_aload_n dX3_arePair_0 rfl rfl ?_
  refine T_iload_n dX3_arePair_1 rfl rfl ?_
  refine T_vi (Rc_of (hv0 0 (by decide)) rfl rfl) (k_X3_isCopy hL0) ml_X3_77 im_yX3_isCopy se_RX3_yX3_isCopy ini_RX3 co_yX3_isCopy rfl de_X3_isCopy (by decide) (by decide) rfl (Nat.le_of_ble_eq_true rfl) dX3_arePair_2 ?_
  refine T_if_eq 25 dX3_arePair_5 (by decide) (fun h5 => ?_) (fun h5 => ?_)
  · refine T_iconst (v := nI 0) dX3_arePair_25 rfl ?_
    refine T_zret (ty := .boolean) rfl (by decide) dX3_arePair_26 ?_
    first | (refine ⟨?_, rfl⟩; rw [if_neg (an1 (b01_0 h5))]) | (refine ⟨?_, rfl⟩; rw [if_neg (an2 (b01_0 h13))]) | (refine ⟨?_, rfl⟩; rw [if_neg (cn3 h18)]) | (refine ⟨?_, rfl⟩; rw [if_pos (an0 (b01_1 h5) (b01_1 h13) h18)])
  · refine T_aload_n dX3_arePair_8 rfl rfl ?_
    refine T_iload_n dX3_arePair_9 rfl rfl ?_
    refine T_vi (Rc_of (hv0 0 (by decide)) rfl rfl) (k_X3_isCopy hL0) ml_X3_77 im_yX3_isCopy se_RX3_yX3_isCopy ini_RX3 co_yX3_isCopy rfl de_X3_isCopy (by decide) (by decide) rfl (Nat.le_of_ble_eq_true rfl) dX3_arePair_10 ?_
    refine T_if_eq 25 dX3_arePair_13 (by decide) (fun h13 => ?_) (fun h13 => ?_)
    · refine T_iconst (v := nI 0) dX3_arePair_25 rfl ?_
      refine T_zret (ty := .boolean) rfl (by decide) dX3_arePair_26 ?_
      first | (refine ⟨?_, rfl⟩; rw [if_neg (an1 (b01_0 h5))]) | (refine ⟨?_, rfl⟩; rw [if_neg (an2 (b01_0 h13))]) | (refine ⟨?_, rfl⟩; rw [if_neg (cn3 h18)]) | (refine ⟨?_, rfl⟩; rw [if_pos (an0 (b01_1 h5) (b01_1 h13) h18)])
    · refine T_iload_n dX3_arePair_16 rfl rfl ?_
      refine T_iload_n dX3_arePair_17 rfl rfl ?_
      refine T_icmp_eq 25 dX3_arePair_18 (by decide) (fun h18 => ?_) (fun h18 => ?_)
      · refine T_iconst (v := nI 0) dX3_arePair_25 rfl ?_
        refine T_zret (ty := .boolean) rfl (by decide) dX3_arePair_26 ?_
        first | (refine ⟨?_, rfl⟩; rw [if_neg (an1 (b01_0 h5))]) | (refine ⟨?_, rfl⟩; rw [if_neg (an2 (b01_0 h13))]) | (refine ⟨?_, rfl⟩; rw [if_neg (cn3 h18)]) | (refine ⟨?_, rfl⟩; rw [if_pos (an0 (b01_1 h5) (b01_1 h13) h18)])
      · refine T_iconst (v := nI 1) dX3_arePair_21 rfl ?_
        refine T_goto 26 dX3_arePair_22 (by decide) ?_
        refine T_zret (ty := .boolean) rfl (by decide) dX3_arePair_26 ?_
        first | (refine ⟨?_, rfl⟩; rw [if_neg (an1 (b01_0 h5))]) | (refine ⟨?_, rfl⟩; rw [if_neg (an2 (b01_0 h13))]) | (refine ⟨?_, rfl⟩; rw [if_neg (cn3 h18)]) | (refine ⟨?_, rfl⟩; rw [if_pos (an0 (b01_1 h5) (b01_1 h13) h18)])
