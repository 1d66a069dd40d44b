/-! ===== the world as a function: Hp K r k j = what place j of cell k of region r of kind K holds (all that moves is an int) ===== -/
abbrev Id3 : Type := Nat × Nat × Nat
abbrev Rg : Type := Nat → Nat → Int32
abbrev Hp : Type := Nat → Nat → Nat → Nat → Int32
/-- class numbers and slots; array classes (0 int, 1 char, 2 boolean, 3 Ledger); addresses; live cells; the String constants' addresses, their bytes' addresses -/
abbrev Cx : Type := va_G × (Nat → ClassId) × (Nat → Nat → Nat → Nat) × List Id3 × (Nat → Nat) × (Nat → Nat)
def adr (X : Cx) (K r k : Nat) : Nat := X.2.2.1 K r k
def ids (X : Cx) : List Id3 := X.2.2.2.1
def arI (X : Cx) (c n : Nat) (g : Nat → Int32) : va_E := .inl (X.2.1 c, n, .inl g)
def arR (X : Cx) (n : Nat) (f : Nat → Option Nat) : va_E := .inl (X.2.1 3, n, .inr (.inr (.inr (.inr f))))
/-- what a cell is: kind 0 the outer object, 1 a ledger, 2 the history, 3 the text, 4 the model -/
def cel (X : Cx) (g : Nat → Int32) (K r k : Nat) : va_E := match K with
  | 0 => match k with
    | 0 => .inr (3, [.ref (adr X 1 0 0), .ref (adr X 1 1 0), .ref (adr X 2 0 0), .ref (adr X 3 0 0), .ref (adr X 0 r 1), .ref (adr X 0 r 2), .ref (adr X 0 r 3), .ref (adr X 0 r 4), .int (g 8), .ref (adr X 0 r 5)])
    | 1 => arR X 2 (fun j => some (adr X 1 (10 + j) 0))
    | 2 => arI X 2 2 g
    | 3 => arI X 0 6 g
    | 4 => arI X 0 6 g
    | _ => arI X 0 4 g
  | 1 => match k with
    | 0 => .inr (1, [.int (g 0), .int (g 1), .int (g 2), .ref (adr X 1 r 1), .ref (adr X 1 r 2), .ref (adr X 1 r 3), .ref (adr X 1 r 4), .ref (adr X 1 r 5), .ref (adr X 1 r 6), .ref (adr X 1 r 7), .ref (adr X 1 r 8), .ref (adr X 1 r 9), .ref (adr X 1 r 10)])
    | 1 => arI X 0 4 g
    | 2 => arI X 0 4 g
    | 3 => arI X 0 4 g
    | 4 => arI X 0 4 g
    | 5 => arI X 0 4 g
    | 6 => arI X 0 16 g
    | 7 => arI X 0 16 g
    | 8 => arI X 0 24 g
    | 9 => arI X 0 24 g
    | _ => arI X 0 24 g
  | 2 => match k with
    | 0 => .inr (0, [.ref (adr X 2 r 1), .int (g 1), .int (g 2)])
    | _ => arR X 8 (fun j => some (adr X 1 (2 + j) 0))
  | 3 => match k with
    | 0 => .inr (2, [.ref (adr X 3 r 1), .int (g 1), .ref (adr X 3 r 2), .ref (adr X 3 r 3), .ref (adr X 3 r 4), .int (g 5)])
    | 1 => arI X 1 80 g
    | _ => arI X 0 81 g
  | _ => match k with
    | 0 => .inr (4, [.ref (adr X 4 r 1), .ref (adr X 4 r 2), .ref (adr X 4 r 3), .ref (adr X 4 r 4), .int (g 4), .ref (adr X 4 r 5), .ref (adr X 4 r 6), .ref (adr X 4 r 7), .int (g 8), .int (g 9), .int (g 10), .int (g 11), .int (g 12), .ref (adr X 4 r 8), .ref (adr X 4 r 9), .int (g 15), .int (g 16)])
    | 1 => arI X 0 127 g
    | 2 => arI X 0 127 g
    | 3 => arI X 0 127 g
    | 4 => arI X 0 1016 g
    | 5 => arI X 0 254 g
    | 6 => arI X 2 2 g
    | 7 => arI X 0 80 g
    | 8 => arI X 0 6 g
    | _ => arI X 0 6 g
def ncel : Nat → Nat
  | 0 => 6
  | 1 => 11
  | 2 => 2
  | 3 => 5
  | _ => 10
def wl (X : Cx) (σ : Hp) : va_W := (ids X).map (fun i => (adr X i.1 i.2.1 i.2.2, cel X (σ i.1 i.2.1 i.2.2) i.1 i.2.1 i.2.2))
/-- a region all of whose cells are there -/
def Lv (X : Cx) (K r : Nat) : Prop := ∀ k, k < ncel K → (K, r, k) ∈ ids X
def Ax (X : Cx) : Nat → Prop := fun q => ∃ i ∈ ids X, q = adr X i.1 i.2.1 i.2.2
/-- the addresses are apart -/
def XD (X : Cx) : Prop := ∀ (i j : Nat) (p q : Id3), (ids X)[i]? = some p → (ids X)[j]? = some q → adr X p.1 p.2.1 p.2.2 = adr X q.1 q.2.1 q.2.2 → i = j
def setR (σ : Hp) (K r : Nat) (h : Rg) : Hp := fun K' r' => if K' = K ∧ r' = r then h else σ K' r'
def up2 (h : Rg) (k j : Nat) (x : Int32) : Rg := fun k' => if k' = k then upd (h k) j x else h k'
def up1 (h : Rg) (k : Nat) (g : Nat → Int32) : Rg := fun k' => if k' = k then g else h k'
theorem setR_self (σ : Hp) (K r : Nat) (h : Rg) : setR σ K r h K r = h := if_pos ⟨rfl, rfl⟩
theorem setR_ne {σ : Hp} {K r K' r' : Nat} {h : Rg} (hn : ¬ (K' = K ∧ r' = r)) : setR σ K r h K' r' = σ K' r' := if_neg hn
theorem setR_setR (σ : Hp) (K r : Nat) (h h' : Rg) : setR (setR σ K r h) K r h' = setR σ K r h' := by
  funext K' r'
  unfold setR
  split <;> rfl
theorem setR_id (σ : Hp) (K r : Nat) : setR σ K r (σ K r) = σ := by
  funext K' r'
  unfold setR
  split
  · rename_i h; rw [h.1, h.2]
  · rfl
theorem up2_same (h : Rg) (k j : Nat) (x : Int32) : up2 h k j x k = upd (h k) j x := if_pos rfl
theorem up2_ne {h : Rg} {k j k' : Nat} {x : Int32} (hn : ¬ k' = k) : up2 h k j x k' = h k' := if_neg hn
theorem up2_up1 (h : Rg) (k j : Nat) (x : Int32) : up2 h k j x = up1 h k (upd (h k) j x) := rfl
theorem up1_same (h : Rg) (k : Nat) (g : Nat → Int32) : up1 h k g k = g := if_pos rfl
theorem up1_ne {h : Rg} {k k' : Nat} {g : Nat → Int32} (hn : ¬ k' = k) : up1 h k g k' = h k' := if_neg hn
theorem wl_get (X : Cx) (σ : Hp) {K r k : Nat} (h : (K, r, k) ∈ ids X) : ∃ i : Nat, (ids X)[i]? = some (K, r, k) ∧ (wl X σ)[i]? = some (adr X K r k, cel X (σ K r k) K r k) := by
  obtain ⟨i, hi⟩ := List.getElem?_of_mem h
  exact ⟨i, hi, by rw [wl, List.getElem?_map, hi]; rfl⟩
/-- one cell's change, in the list: the other cells are of other names -/
theorem wl_set {X : Cx} (hX : XD X) {σ σ' : Hp} {K r k i : Nat} (hi : (ids X)[i]? = some (K, r, k)) (ho : ∀ K' r' k', ¬ (K' = K ∧ r' = r ∧ k' = k) → σ' K' r' k' = σ K' r' k') {e : va_E} (he : cel X (σ' K r k) K r k = e) : (wl X σ).set i (adr X K r k, e) = wl X σ' := by
  apply List.ext_getElem?
  intro j
  by_cases hj : j = i
  · subst hj
    have hl : j < (wl X σ).length := by
      rw [wl, List.length_map]
      exact (List.getElem?_eq_some_iff.mp hi).1
    rw [List.getElem?_set_self hl, wl, List.getElem?_map, hi, ← he]
    rfl
  · rw [List.getElem?_set_ne (fun h => hj h.symm), wl, wl, List.getElem?_map, List.getElem?_map]
    cases hq : (ids X)[j]? with
    | none => rfl
    | some q =>
      have hn : ¬ (q.1 = K ∧ q.2.1 = r ∧ q.2.2 = k) := fun h => hj (hX j i q (K, r, k) hq hi (by rw [h.1, h.2.1, h.2.2]))
      exact congrArg some (by show (adr X q.1 q.2.1 q.2.2, cel X (σ q.1 q.2.1 q.2.2) q.1 q.2.1 q.2.2) = (adr X q.1 q.2.1 q.2.2, cel X (σ' q.1 q.2.1 q.2.2) q.1 q.2.1 q.2.2); rw [ho _ _ _ hn])
theorem wl_D {X : Cx} (hX : XD X) (σ : Hp) : va_D (Ax X) (wl X σ) := by
  have at' : ∀ (i : Nat) (p : Nat × va_E), (wl X σ)[i]? = some p → ∃ q : Id3, (ids X)[i]? = some q ∧ p.1 = adr X q.1 q.2.1 q.2.2 := by
    intro i p h
    rw [wl, List.getElem?_map] at h
    cases hq : (ids X)[i]? with
    | none => rw [hq] at h; cases h
    | some q => rw [hq] at h; cases h; exact ⟨q, rfl, rfl⟩
  refine ⟨fun i j p q hp hq e => ?_, fun i p hp => ?_⟩
  · obtain ⟨a, ha, ha'⟩ := at' i p hp
    obtain ⟨b, hb, hb'⟩ := at' j q hq
    exact hX i j a b ha hb (by rw [← ha', ← hb', e])
  · obtain ⟨a, ha, ha'⟩ := at' i p hp
    exact ⟨a, List.mem_of_getElem? ha, ha'⟩
/-! ===== what is known of the tables, of the String constants ===== -/
def tyX (X : Cx) : List (ClassId × FieldType) := [(X.2.1 0, .int), (X.2.1 1, .char), (X.2.1 2, .boolean), (X.2.1 3, .object "StaleBounds$Ledger")]
def KX (X : Cx) (U : State) : Prop := XD X ∧ va_K X.1 vwCl (tyX X) U ∧ va_Nw (.methodLinkNest RX1 74 yX3_slot RX3) U ∧ va_Nw (.methodLinkNest RX1 82 yX3_hasBit RX3) U ∧ vk_R RX2 86 "copies" (X.2.2.2.2.1 0) U ∧ vk_R RX2 91 "bounds" (X.2.2.2.2.1 1) U ∧ va_Nw (.methodLinkNest RX3 28 yX2_init RX3) U ∧ (∀ i ∈ ids X, i.2.2 < ncel i.1)
def SX (X : Cx) (U : State) : Prop := va_Z "java/lang/String" "COMPACT_STRINGS" "Z" (.int 1) (Ax X) U U.heap ∧ vk_S 2 [6, 6] [[99, 111, 112, 105, 101, 115], [98, 111, 117, 110, 100, 115]] X.2.2.2.2.1 X.2.2.2.2.2 (Ax X) U U.heap ∧ va_Zq "jdk/internal/util/Preconditions" "SIOOBE_FORMATTER" "Ljava/util/function/BiFunction;" (Ax X) U U.heap
theorem KX.warm {X : Cx} {s U : State} (hW : s.WarmedH U.vm) (h : KX X s) : KX X U := ⟨h.1, va_K.moved hW.alike h.2.1, va_Nw.warmM hW h.2.2.1, va_Nw.warmM hW h.2.2.2.1, vk_R.warm hW h.2.2.2.2.1, vk_R.warm hW h.2.2.2.2.2.1, va_Nw.warmM hW h.2.2.2.2.2.2.1, h.2.2.2.2.2.2.2⟩
theorem KX.same {X : Cx} {u U : State} (hv : u.vm = U.vm) (h : KX X u) : KX X U := ⟨h.1, va_K.moved (by rw [← hv]; exact Vm.Alike.refl u.vm) h.2.1, va_Nw.same rfl hv h.2.2.1, va_Nw.same rfl hv h.2.2.2.1, vk_R.same hv.symm h.2.2.2.2.1, vk_R.same hv.symm h.2.2.2.2.2.1, va_Nw.same rfl hv h.2.2.2.2.2.2.1, h.2.2.2.2.2.2.2⟩
theorem SX.moved {X : Cx} {s U : State} {locs : List Loc} (hvm : s.vm.Alike U.vm) (hS : va_S (Ax X) s.heap U.heap locs) (h : SX X s) : SX X U := ⟨(h.1.kept hS.2.1).moved hvm, (h.2.1.kept hS.2.1).moved hvm, (h.2.2.kept hS.2.1).moved hvm⟩
/-! ===== the judgement ===== -/
def rmD (d : Nat) : Room := { frames := d, cells := 0, slots := 0, locals := 36 * d }
def QT (X : Cx) (Q : Option Value → Hp → Prop) : Array Value → State → Outcome → State → Prop := fun _ st o t => (∃ (r : Option Value) (u : Hp), o = .returned r ∧ Q r u ∧ va_P X.1 vwCl (wl X u) t.heap) ∧ va_F (Ax X) st t
def kn : Nat → List (Option Value) → List (Nat × Value)
  | _, [] => []
  | i, none :: t => kn (i + 1) t
  | i, some v :: t => (i, v) :: kn (i + 1) t
theorem kn_get : ∀ (ls : List (Option Value)) (j i : Nat) (v : Value), ls[i]? = some (some v) → (j + i, v) ∈ kn j ls
  | [], _, _, _, h => by simp at h
  | a :: t, j, 0, v, h => by
    have h : a = some v := by simpa using h
    subst h
    exact List.mem_cons_self
  | a :: t, j, i + 1, v, h => by
    have h1 := kn_get t (j + 1) i v (by simpa using h)
    have e : j + 1 + i = j + (i + 1) := by omega
    rw [e] at h1
    cases a with
    | none => exact h1
    | some w => exact List.mem_cons_of_mem _ h1
theorem kn_of : ∀ (ls : List (Option Value)) (j n : Nat) (v : Value), (n, v) ∈ kn j ls → ∃ i, n = j + i ∧ ls[i]? = some (some v)
  | [], _, _, _, h => by simp [kn] at h
  | none :: t, j, n, v, h => by
    obtain ⟨i, h1, h2⟩ := kn_of t (j + 1) n v h
    exact ⟨i + 1, by omega, by simpa using h2⟩
  | some w :: t, j, n, v, h => by
    rcases List.mem_cons.mp h with h | h
    · cases h
      exact ⟨0, by omega, by simp⟩
    · obtain ⟨i, h1, h2⟩ := kn_of t (j + 1) n v h
      exact ⟨i + 1, by omega, by simpa using h2⟩
theorem has_mono {ls : Array Slot} {n : Nat} {a b : List (Nat × Value)} (h : lv_has ls n a) (hs : ∀ q ∈ b, q ∈ a) : lv_has ls n b := ⟨h.1, h.2.1, fun q hq => h.2.2 q (hs q hq)⟩
/-- the local ahead of place i isn't a long -/
def okS (ls : List (Option Value)) : Nat → Bool
  | 0 => true
  | i + 1 => match ls[i]? with
    | some (some v) => v.category == 1
    | _ => true
theorem kn_set {ls : List (Option Value)} {i : Nat} {v : Value} (hk : okS ls i = true) : ∀ q ∈ kn 0 (ls.set i (some v)), q ∈ (i, v) :: (kn 0 ls).filter (fun q => !(q.1 == i) && !(q.1 + 1 == i && q.2.category == 2)) := by
  rintro ⟨n, w⟩ hq
  obtain ⟨j, h1, h2⟩ := kn_of _ 0 n w hq
  have h1 : n = j := by omega
  subst h1
  by_cases hj : n = i
  · subst hj
    by_cases hl : n < ls.length
    · rw [List.getElem?_set_self hl] at h2
      cases h2
      exact List.mem_cons_self
    · rw [List.getElem?_eq_none (by rw [List.length_set]; omega)] at h2
      cases h2
  · rw [List.getElem?_set_ne (fun e => hj e.symm)] at h2
    refine List.mem_cons_of_mem _ (List.mem_filter.mpr ⟨?_, ?_⟩)
    · have := kn_get ls 0 n w h2
      rwa [Nat.zero_add] at this
    · simp only [Bool.and_eq_true, Bool.not_eq_true', beq_eq_false_iff_ne, ne_eq, Bool.and_eq_false_iff]
      refine ⟨hj, ?_⟩
      by_cases he : n + 1 = i
      · right
        subst he
        simp only [okS, h2] at hk
        have hk : w.category = 1 := by simpa using hk
        show ¬ w.category = 2
        omega
      · left
        exact he
/-- what stands of a method's start, all through it -/
def Fx (X : Cx) (p : Program) (s : State) (m : MethodId) (args : Array Value) (meth : Method) (c : Code) (y : MethodName) (cc : ByteArray) (nL : Nat) (ret : Option FieldType) : Prop :=
  p.tables.exec = Jvm.exec ∧ c.code = cc ∧ c.maxLocals = nL ∧ meth.sig.returnType = ret ∧ meth.locks = false ∧ s.vm.findClass y.cls = some m.cls ∧ (∀ w ∈ tb, w.before args s = true) ∧ KX X s ∧ SX X s
/-- the method y, at pc with locals ls and stack st over the world σ, ends with Q (answer, world) -/
def T (X : Cx) (l : Launch) (y : MethodName) (cc : ByteArray) (nL : Nat) (ret : Option FieldType) (d pc : Nat) (ls : List (Option Value)) (st : List Value) (σ : Hp) (Q : Option Value → Hp → Prop) : Prop :=
  ∀ (p : Program) (e : Env) (s : State) (m : MethodId) (args : Array Value) (below : List Frame) (meth : Method) (c : Code) (H : Heap) (locs : List Loc) (lsA : Array Slot),
    Fx X p s m args meth c y cc nL ret → va_P X.1 vwCl (wl X σ) H → va_S (Ax X) s.heap H locs → lv_has lsA nL (kn 0 ls) →
    W p l e (rmD d) s m args below meth c H locs 0 0 (MQ below (QT X Q) args s 0 0 (Ax X)) (F0 m pc lsA st)
/-- the contract -/
def Con (X : Cx) (l : Launch) (y : MethodName) (cc : ByteArray) (nL : Nat) (ret : Option FieldType) (d : Nat) (As : List Value) (σ : Hp) (Q : Option Value → Hp → Prop) : Prop :=
  Met l y (Cond.code y cc nL ret :: tb) (rmD d) (va_Pc As (fun U => va_P X.1 vwCl (wl X σ) U.heap ∧ KX X U ∧ SX X U)) (QT X Q) 0 0 (Ax X)
/-- just this answer, just this world -/
def Ex (r0 : Option Value) (u0 : Hp) : Option Value → Hp → Prop := fun r u => r = r0 ∧ u = u0
theorem con_blind {X : Cx} {As : List Value} {σ : Hp} : FrameBlind (va_Pc As (fun U => va_P X.1 vwCl (wl X σ) U.heap ∧ KX X U ∧ SX X U)) := by
  intro a U g mk h
  obtain ⟨h1, h2, h3, h4⟩ := h
  exact ⟨h1, h2, h3.same rfl, SX.moved (locs := []) (Vm.Alike.refl U.vm) va_S.rf h4⟩
theorem Con_of {X : Cx} {l : Launch} {y : MethodName} {cc : ByteArray} {nL : Nat} {ret : Option FieldType} {d : Nat} {As : List Value} {σ : Hp} {Q : Option Value → Hp → Prop} (ls : List (Option Value)) (hy : plainName y.cls = true) (hent : kn 0 ls = lv_args 0 As) (hlen : (lg_sl As).length ≤ nL)
    (h : T X l y cc nL ret d 0 ls [] σ Q) : Con X l y cc nL ret d As σ Q := by
  refine Met.ofW (cc := cc) (maxL := nL) (ret := ret) hy rfl ?_
  intro p e s m args below meth c s₁ B hml hv
  obtain ⟨rfl, hP, hK, hS⟩ := hv
  have hts := atoms_spec (ws := Cond.code y cc nL ret :: tb) B.pre
  have hl := lv_entry As (n := nL) hlen
  rw [lg_entry_eq]
  exact h p e s m _ below meth c s.heap [] _ ⟨B.exec, B.bytes, hml, B.returns, B.notSynchronized, findClass_of_methodNamed B.named, fun w hw => hts w (List.mem_cons_of_mem _ hw), hK, hS⟩ hP va_S.rf (by rw [hent]; exact hl)
section ROWS
variable {X : Cx} {l : Launch} {y : MethodName} {cc : ByteArray} {nL : Nat} {ret : Option FieldType} {d pc : Nat} {ls : List (Option Value)} {st : List Value} {σ : Hp} {Q : Option Value → Hp → Prop}
/-- another function that gives the same cells -/
theorem T_re {σ' : Hp} (h : ∀ K r k, (K, r, k) ∈ ids X → k < ncel K → cel X (σ K r k) K r k = cel X (σ' K r k) K r k) (kk : T X l y cc nL ret d pc ls st σ' Q) : T X l y cc nL ret d pc ls st σ Q := by
  intro p e s m args below meth c H locs lsA hF hP hS hl
  refine kk p e s m args below meth c H locs lsA hF ?_ hS hl
  have hk := hF.2.2.2.2.2.2.2.1.2.2.2.2.2.2.2
  have e : wl X σ = wl X σ' := List.map_congr_left (fun i hi => by rw [h i.1 i.2.1 i.2.2 hi (hk i hi)])
  rw [← e]
  exact hP
theorem T_pc {pc' : Nat} (h : pc' = pc) (k : T X l y cc nL ret d pc' ls st σ Q) : T X l y cc nL ret d pc ls st σ Q := h ▸ k
theorem T_iconst {n : Int} {v : Int32} (hd : decode cc pc = .ok (.iconst n, 1)) (hv : Int32.ofInt n = v) (k : T X l y cc nL ret d (pc + 1) ls (.int v :: st) σ Q) : T X l y cc nL ret d pc ls st σ Q := by
  intro p e s m args below meth c H locs lsA hF hP hS hl
  exact lv_iconst hF.1 hF.2.1 hd hv (k p e s m args below meth c H locs lsA hF hP hS hl)
theorem T_bipush {n : Int} {v : Int32} (hd : decode cc pc = .ok (.bipush n, 2)) (hv : (Int8.ofInt n).toInt32 = v) (k : T X l y cc nL ret d (pc + 2) ls (.int v :: st) σ Q) : T X l y cc nL ret d pc ls st σ Q := by
  intro p e s m args below meth c H locs lsA hF hP hS hl
  exact lv_bipush hF.1 hF.2.1 hd hv (k p e s m args below meth c H locs lsA hF hP hS hl)
theorem T_sipush {n : Int} {v : Int32} (hd : decode cc pc = .ok (.sipush n, 3)) (hv : (Int16.ofInt n).toInt32 = v) (k : T X l y cc nL ret d (pc + 3) ls (.int v :: st) σ Q) : T X l y cc nL ret d pc ls st σ Q := by
  intro p e s m args below meth c H locs lsA hF hP hS hl
  exact lv_sipush hF.1 hF.2.1 hd hv (k p e s m args below meth c H locs lsA hF hP hS hl)
theorem T_ldc {index : Nat} {v : Int32} (hw : Cond.constant y.cls index v ∈ tb) (hd : decode cc pc = .ok (.ldc index, 2)) (k : T X l y cc nL ret d (pc + 2) ls (.int v :: st) σ Q) : T X l y cc nL ret d pc ls st σ Q := by
  intro p e s m args below meth c H locs lsA hF hP hS hl
  exact lv_ldc hF.1 hF.2.1 hF.2.2.2.2.2.1 (hF.2.2.2.2.2.2.1 _ hw) hd (k p e s m args below meth c H locs lsA hF hP hS hl)
theorem T_ldcw {index : Nat} {v : Int32} (hw : Cond.constant y.cls index v ∈ tb) (hd : decode cc pc = .ok (.ldc_w index, 3)) (k : T X l y cc nL ret d (pc + 3) ls (.int v :: st) σ Q) : T X l y cc nL ret d pc ls st σ Q := by
  intro p e s m args below meth c H locs lsA hF hP hS hl
  exact lv_ldcw hF.1 hF.2.1 hF.2.2.2.2.2.1 (hF.2.2.2.2.2.2.1 _ hw) hd (k p e s m args below meth c H locs lsA hF hP hS hl)
theorem T_ldc2 {index : Nat} {v : Int64} (hw : Cond.constantLong y.cls index v ∈ tb) (hd : decode cc pc = .ok (.ldc2_w index, 3)) (k : T X l y cc nL ret d (pc + 3) ls (.long v :: st) σ Q) : T X l y cc nL ret d pc ls st σ Q := by
  intro p e s m args below meth c H locs lsA hF hP hS hl
  exact lv_ldc2 hF.1 hF.2.1 hF.2.2.2.2.2.1 (hF.2.2.2.2.2.2.1 _ hw) hd (k p e s m args below meth c H locs lsA hF hP hS hl)
theorem T_lconst {n : Fin 2} {v : Int64} (hd : decode cc pc = .ok (.lconst n, 1)) (hv : Int64.ofNat (n : Nat) = v) (k : T X l y cc nL ret d (pc + 1) ls (.long v :: st) σ Q) : T X l y cc nL ret d pc ls st σ Q := by
  intro p e s m args below meth c H locs lsA hF hP hS hl
  exact lv_lconst hF.1 hF.2.1 hd hv (k p e s m args below meth c H locs lsA hF hP hS hl)
theorem kn_at {lsA : Array Slot} {ls : List (Option Value)} {nL i : Nat} {v : Value} (h : lv_has lsA nL (kn 0 ls)) (hi : ls[i]? = some (some v)) : lsA[i]? = some (.val v) := by
  have h1 := kn_get ls 0 i v hi
  rw [Nat.zero_add] at h1
  exact h.2.2 _ h1
theorem T_iload_n {q : Fin 4} {i : Nat} {x : Int32} (hd : decode cc pc = .ok (.iload_n q, 1)) (hi : (q : Nat) = i) (hx : ls[i]? = some (some (.int x))) (k : T X l y cc nL ret d (pc + 1) ls (.int x :: st) σ Q) : T X l y cc nL ret d pc ls st σ Q := by
  intro p e s m args below meth c H locs lsA hF hP hS hl
  exact lv_iload_n hF.1 hF.2.1 hd hi (kn_at hl hx) (k p e s m args below meth c H locs lsA hF hP hS hl)
theorem T_iload {i : Nat} {x : Int32} (hd : decode cc pc = .ok (.iload i, 2)) (hx : ls[i]? = some (some (.int x))) (k : T X l y cc nL ret d (pc + 2) ls (.int x :: st) σ Q) : T X l y cc nL ret d pc ls st σ Q := by
  intro p e s m args below meth c H locs lsA hF hP hS hl
  exact lv_iload hF.1 hF.2.1 hd (kn_at hl hx) (k p e s m args below meth c H locs lsA hF hP hS hl)
theorem T_aload_n {q : Fin 4} {i : Nat} {x : Nat} (hd : decode cc pc = .ok (.aload_n q, 1)) (hi : (q : Nat) = i) (hx : ls[i]? = some (some (.ref x))) (k : T X l y cc nL ret d (pc + 1) ls (.ref x :: st) σ Q) : T X l y cc nL ret d pc ls st σ Q := by
  intro p e s m args below meth c H locs lsA hF hP hS hl
  exact lv_aload_n hF.1 hF.2.1 hd hi (kn_at hl hx) (k p e s m args below meth c H locs lsA hF hP hS hl)
theorem T_aload {i : Nat} {x : Nat} (hd : decode cc pc = .ok (.aload i, 2)) (hx : ls[i]? = some (some (.ref x))) (k : T X l y cc nL ret d (pc + 2) ls (.ref x :: st) σ Q) : T X l y cc nL ret d pc ls st σ Q := by
  intro p e s m args below meth c H locs lsA hF hP hS hl
  exact lv_aload hF.1 hF.2.1 hd (kn_at hl hx) (k p e s m args below meth c H locs lsA hF hP hS hl)
theorem T_lload_n {q : Fin 4} {i : Nat} {x : Int64} (hd : decode cc pc = .ok (.lload_n q, 1)) (hi : (q : Nat) = i) (hx : ls[i]? = some (some (.long x))) (k : T X l y cc nL ret d (pc + 1) ls (.long x :: st) σ Q) : T X l y cc nL ret d pc ls st σ Q := by
  intro p e s m args below meth c H locs lsA hF hP hS hl
  exact lv_lload_n hF.1 hF.2.1 hd hi (kn_at hl hx) (k p e s m args below meth c H locs lsA hF hP hS hl)
theorem T_istore_n {q : Fin 4} {i : Nat} {x : Int32} (hd : decode cc pc = .ok (.istore_n q, 1)) (hi : (q : Nat) = i) (hk : okS ls i = true) (hn : i < nL) (k : T X l y cc nL ret d (pc + 1) (ls.set i (some (.int x))) st σ Q) : T X l y cc nL ret d pc ls (.int x :: st) σ Q := by
  intro p e s m args below meth c H locs lsA hF hP hS hl
  exact lv_istore_n hF.1 hF.2.1 hd hi hl hn rfl (fun ls2 h2 => k p e s m args below meth c H locs ls2 hF hP hS (has_mono h2 (kn_set hk)))
theorem T_istore {i : Nat} {x : Int32} (hd : decode cc pc = .ok (.istore i, 2)) (hk : okS ls i = true) (hn : i < nL) (k : T X l y cc nL ret d (pc + 2) (ls.set i (some (.int x))) st σ Q) : T X l y cc nL ret d pc ls (.int x :: st) σ Q := by
  intro p e s m args below meth c H locs lsA hF hP hS hl
  exact lv_istore hF.1 hF.2.1 hd hl hn rfl (fun ls2 h2 => k p e s m args below meth c H locs ls2 hF hP hS (has_mono h2 (kn_set hk)))
theorem T_astore_n {q : Fin 4} {i : Nat} {x : Nat} (hd : decode cc pc = .ok (.astore_n q, 1)) (hi : (q : Nat) = i) (hk : okS ls i = true) (hn : i < nL) (k : T X l y cc nL ret d (pc + 1) (ls.set i (some (.ref x))) st σ Q) : T X l y cc nL ret d pc ls (.ref x :: st) σ Q := by
  intro p e s m args below meth c H locs lsA hF hP hS hl
  exact lv_astore_n hF.1 hF.2.1 hd hi hl hn rfl (fun ls2 h2 => k p e s m args below meth c H locs ls2 hF hP hS (has_mono h2 (kn_set hk)))
theorem T_astore {i : Nat} {x : Nat} (hd : decode cc pc = .ok (.astore i, 2)) (hk : okS ls i = true) (hn : i < nL) (k : T X l y cc nL ret d (pc + 2) (ls.set i (some (.ref x))) st σ Q) : T X l y cc nL ret d pc ls (.ref x :: st) σ Q := by
  intro p e s m args below meth c H locs lsA hF hP hS hl
  exact lv_astore hF.1 hF.2.1 hd hl hn rfl (fun ls2 h2 => k p e s m args below meth c H locs ls2 hF hP hS (has_mono h2 (kn_set hk)))
theorem T_iinc_g {i : Nat} {n : Int} {x v : Int32} (hd : decode cc pc = .ok (.iinc i n, 3)) (hx : ls[i]? = some (some (.int x))) (hv : x + Int32.ofInt n = v) (hk : okS ls i = true) (hn : i < nL) (k : T X l y cc nL ret d (pc + 3) (ls.set i (some (.int v))) st σ Q) : T X l y cc nL ret d pc ls st σ Q := by
  intro p e s m args below meth c H locs lsA hF hP hS hl
  have h1 := kn_get ls 0 i _ hx
  rw [Nat.zero_add] at h1
  obtain ⟨q, hq⟩ := List.getElem?_of_mem h1
  exact lv_iinc hF.1 hF.2.1 hd hl hq hv hn rfl (fun ls2 h2 => k p e s m args below meth c H locs ls2 hF hP hS (has_mono h2 (kn_set hk)))
theorem T_istore0 {l0 : Option Value} {t : List (Option Value)} {x : Int32} (hd : decode cc pc = .ok (.istore_n 0, 1)) (hk : okS (l0 :: t) 0 = true) (hn : 0 < nL) (k : T X l y cc nL ret d (pc + 1) (some (.int x) :: t) st σ Q) : T X l y cc nL ret d pc (l0 :: t) (.int x :: st) σ Q := T_istore_n hd rfl hk hn k
theorem T_astore0 {l0 : Option Value} {t : List (Option Value)} {x : Nat} (hd : decode cc pc = .ok (.astore_n 0, 1)) (hk : okS (l0 :: t) 0 = true) (hn : 0 < nL) (k : T X l y cc nL ret d (pc + 1) (some (.ref x) :: t) st σ Q) : T X l y cc nL ret d pc (l0 :: t) (.ref x :: st) σ Q := T_astore_n hd rfl hk hn k
theorem T_iinc0 {t : List (Option Value)} {n : Int} {x v : Int32} (hd : decode cc pc = .ok (.iinc 0 n, 3)) (hv : x + Int32.ofInt n = v) (hk : okS (some (.int x) :: t) 0 = true) (hn : 0 < nL) (k : T X l y cc nL ret d (pc + 3) (some (.int v) :: t) st σ Q) : T X l y cc nL ret d pc (some (.int x) :: t) st σ Q := T_iinc_g hd rfl hv hk hn k
theorem T_istore1 {l0 l1 : Option Value} {t : List (Option Value)} {x : Int32} (hd : decode cc pc = .ok (.istore_n 1, 1)) (hk : okS (l0 :: l1 :: t) 1 = true) (hn : 1 < nL) (k : T X l y cc nL ret d (pc + 1) (l0 :: some (.int x) :: t) st σ Q) : T X l y cc nL ret d pc (l0 :: l1 :: t) (.int x :: st) σ Q := T_istore_n hd rfl hk hn k
theorem T_astore1 {l0 l1 : Option Value} {t : List (Option Value)} {x : Nat} (hd : decode cc pc = .ok (.astore_n 1, 1)) (hk : okS (l0 :: l1 :: t) 1 = true) (hn : 1 < nL) (k : T X l y cc nL ret d (pc + 1) (l0 :: some (.ref x) :: t) st σ Q) : T X l y cc nL ret d pc (l0 :: l1 :: t) (.ref x :: st) σ Q := T_astore_n hd rfl hk hn k
theorem T_iinc1 {l0 : Option Value} {t : List (Option Value)} {n : Int} {x v : Int32} (hd : decode cc pc = .ok (.iinc 1 n, 3)) (hv : x + Int32.ofInt n = v) (hk : okS (l0 :: some (.int x) :: t) 1 = true) (hn : 1 < nL) (k : T X l y cc nL ret d (pc + 3) (l0 :: some (.int v) :: t) st σ Q) : T X l y cc nL ret d pc (l0 :: some (.int x) :: t) st σ Q := T_iinc_g hd rfl hv hk hn k
theorem T_istore2 {l0 l1 l2 : Option Value} {t : List (Option Value)} {x : Int32} (hd : decode cc pc = .ok (.istore_n 2, 1)) (hk : okS (l0 :: l1 :: l2 :: t) 2 = true) (hn : 2 < nL) (k : T X l y cc nL ret d (pc + 1) (l0 :: l1 :: some (.int x) :: t) st σ Q) : T X l y cc nL ret d pc (l0 :: l1 :: l2 :: t) (.int x :: st) σ Q := T_istore_n hd rfl hk hn k
theorem T_astore2 {l0 l1 l2 : Option Value} {t : List (Option Value)} {x : Nat} (hd : decode cc pc = .ok (.astore_n 2, 1)) (hk : okS (l0 :: l1 :: l2 :: t) 2 = true) (hn : 2 < nL) (k : T X l y cc nL ret d (pc + 1) (l0 :: l1 :: some (.ref x) :: t) st σ Q) : T X l y cc nL ret d pc (l0 :: l1 :: l2 :: t) (.ref x :: st) σ Q := T_astore_n hd rfl hk hn k
theorem T_iinc2 {l0 l1 : Option Value} {t : List (Option Value)} {n : Int} {x v : Int32} (hd : decode cc pc = .ok (.iinc 2 n, 3)) (hv : x + Int32.ofInt n = v) (hk : okS (l0 :: l1 :: some (.int x) :: t) 2 = true) (hn : 2 < nL) (k : T X l y cc nL ret d (pc + 3) (l0 :: l1 :: some (.int v) :: t) st σ Q) : T X l y cc nL ret d pc (l0 :: l1 :: some (.int x) :: t) st σ Q := T_iinc_g hd rfl hv hk hn k
theorem T_istore3 {l0 l1 l2 l3 : Option Value} {t : List (Option Value)} {x : Int32} (hd : decode cc pc = .ok (.istore_n 3, 1)) (hk : okS (l0 :: l1 :: l2 :: l3 :: t) 3 = true) (hn : 3 < nL) (k : T X l y cc nL ret d (pc + 1) (l0 :: l1 :: l2 :: some (.int x) :: t) st σ Q) : T X l y cc nL ret d pc (l0 :: l1 :: l2 :: l3 :: t) (.int x :: st) σ Q := T_istore_n hd rfl hk hn k
theorem T_astore3 {l0 l1 l2 l3 : Option Value} {t : List (Option Value)} {x : Nat} (hd : decode cc pc = .ok (.astore_n 3, 1)) (hk : okS (l0 :: l1 :: l2 :: l3 :: t) 3 = true) (hn : 3 < nL) (k : T X l y cc nL ret d (pc + 1) (l0 :: l1 :: l2 :: some (.ref x) :: t) st σ Q) : T X l y cc nL ret d pc (l0 :: l1 :: l2 :: l3 :: t) (.ref x :: st) σ Q := T_astore_n hd rfl hk hn k
theorem T_iinc3 {l0 l1 l2 : Option Value} {t : List (Option Value)} {n : Int} {x v : Int32} (hd : decode cc pc = .ok (.iinc 3 n, 3)) (hv : x + Int32.ofInt n = v) (hk : okS (l0 :: l1 :: l2 :: some (.int x) :: t) 3 = true) (hn : 3 < nL) (k : T X l y cc nL ret d (pc + 3) (l0 :: l1 :: l2 :: some (.int v) :: t) st σ Q) : T X l y cc nL ret d pc (l0 :: l1 :: l2 :: some (.int x) :: t) st σ Q := T_iinc_g hd rfl hv hk hn k
theorem T_istore4 {l0 l1 l2 l3 l4 : Option Value} {t : List (Option Value)} {x : Int32} (hd : decode cc pc = .ok (.istore 4, 2)) (hk : okS (l0 :: l1 :: l2 :: l3 :: l4 :: t) 4 = true) (hn : 4 < nL) (k : T X l y cc nL ret d (pc + 2) (l0 :: l1 :: l2 :: l3 :: some (.int x) :: t) st σ Q) : T X l y cc nL ret d pc (l0 :: l1 :: l2 :: l3 :: l4 :: t) (.int x :: st) σ Q := T_istore hd hk hn k
theorem T_astore4 {l0 l1 l2 l3 l4 : Option Value} {t : List (Option Value)} {x : Nat} (hd : decode cc pc = .ok (.astore 4, 2)) (hk : okS (l0 :: l1 :: l2 :: l3 :: l4 :: t) 4 = true) (hn : 4 < nL) (k : T X l y cc nL ret d (pc + 2) (l0 :: l1 :: l2 :: l3 :: some (.ref x) :: t) st σ Q) : T X l y cc nL ret d pc (l0 :: l1 :: l2 :: l3 :: l4 :: t) (.ref x :: st) σ Q := T_astore hd hk hn k
theorem T_iinc4 {l0 l1 l2 l3 : Option Value} {t : List (Option Value)} {n : Int} {x v : Int32} (hd : decode cc pc = .ok (.iinc 4 n, 3)) (hv : x + Int32.ofInt n = v) (hk : okS (l0 :: l1 :: l2 :: l3 :: some (.int x) :: t) 4 = true) (hn : 4 < nL) (k : T X l y cc nL ret d (pc + 3) (l0 :: l1 :: l2 :: l3 :: some (.int v) :: t) st σ Q) : T X l y cc nL ret d pc (l0 :: l1 :: l2 :: l3 :: some (.int x) :: t) st σ Q := T_iinc_g hd rfl hv hk hn k
theorem T_istore5 {l0 l1 l2 l3 l4 l5 : Option Value} {t : List (Option Value)} {x : Int32} (hd : decode cc pc = .ok (.istore 5, 2)) (hk : okS (l0 :: l1 :: l2 :: l3 :: l4 :: l5 :: t) 5 = true) (hn : 5 < nL) (k : T X l y cc nL ret d (pc + 2) (l0 :: l1 :: l2 :: l3 :: l4 :: some (.int x) :: t) st σ Q) : T X l y cc nL ret d pc (l0 :: l1 :: l2 :: l3 :: l4 :: l5 :: t) (.int x :: st) σ Q := T_istore hd hk hn k
theorem T_astore5 {l0 l1 l2 l3 l4 l5 : Option Value} {t : List (Option Value)} {x : Nat} (hd : decode cc pc = .ok (.astore 5, 2)) (hk : okS (l0 :: l1 :: l2 :: l3 :: l4 :: l5 :: t) 5 = true) (hn : 5 < nL) (k : T X l y cc nL ret d (pc + 2) (l0 :: l1 :: l2 :: l3 :: l4 :: some (.ref x) :: t) st σ Q) : T X l y cc nL ret d pc (l0 :: l1 :: l2 :: l3 :: l4 :: l5 :: t) (.ref x :: st) σ Q := T_astore hd hk hn k
theorem T_iinc5 {l0 l1 l2 l3 l4 : Option Value} {t : List (Option Value)} {n : Int} {x v : Int32} (hd : decode cc pc = .ok (.iinc 5 n, 3)) (hv : x + Int32.ofInt n = v) (hk : okS (l0 :: l1 :: l2 :: l3 :: l4 :: some (.int x) :: t) 5 = true) (hn : 5 < nL) (k : T X l y cc nL ret d (pc + 3) (l0 :: l1 :: l2 :: l3 :: l4 :: some (.int v) :: t) st σ Q) : T X l y cc nL ret d pc (l0 :: l1 :: l2 :: l3 :: l4 :: some (.int x) :: t) st σ Q := T_iinc_g hd rfl hv hk hn k
theorem T_istore6 {l0 l1 l2 l3 l4 l5 l6 : Option Value} {t : List (Option Value)} {x : Int32} (hd : decode cc pc = .ok (.istore 6, 2)) (hk : okS (l0 :: l1 :: l2 :: l3 :: l4 :: l5 :: l6 :: t) 6 = true) (hn : 6 < nL) (k : T X l y cc nL ret d (pc + 2) (l0 :: l1 :: l2 :: l3 :: l4 :: l5 :: some (.int x) :: t) st σ Q) : T X l y cc nL ret d pc (l0 :: l1 :: l2 :: l3 :: l4 :: l5 :: l6 :: t) (.int x :: st) σ Q := T_istore hd hk hn k
theorem T_astore6 {l0 l1 l2 l3 l4 l5 l6 : Option Value} {t : List (Option Value)} {x : Nat} (hd : decode cc pc = .ok (.astore 6, 2)) (hk : okS (l0 :: l1 :: l2 :: l3 :: l4 :: l5 :: l6 :: t) 6 = true) (hn : 6 < nL) (k : T X l y cc nL ret d (pc + 2) (l0 :: l1 :: l2 :: l3 :: l4 :: l5 :: some (.ref x) :: t) st σ Q) : T X l y cc nL ret d pc (l0 :: l1 :: l2 :: l3 :: l4 :: l5 :: l6 :: t) (.ref x :: st) σ Q := T_astore hd hk hn k
theorem T_iinc6 {l0 l1 l2 l3 l4 l5 : Option Value} {t : List (Option Value)} {n : Int} {x v : Int32} (hd : decode cc pc = .ok (.iinc 6 n, 3)) (hv : x + Int32.ofInt n = v) (hk : okS (l0 :: l1 :: l2 :: l3 :: l4 :: l5 :: some (.int x) :: t) 6 = true) (hn : 6 < nL) (k : T X l y cc nL ret d (pc + 3) (l0 :: l1 :: l2 :: l3 :: l4 :: l5 :: some (.int v) :: t) st σ Q) : T X l y cc nL ret d pc (l0 :: l1 :: l2 :: l3 :: l4 :: l5 :: some (.int x) :: t) st σ Q := T_iinc_g hd rfl hv hk hn k
theorem T_istore7 {l0 l1 l2 l3 l4 l5 l6 l7 : Option Value} {t : List (Option Value)} {x : Int32} (hd : decode cc pc = .ok (.istore 7, 2)) (hk : okS (l0 :: l1 :: l2 :: l3 :: l4 :: l5 :: l6 :: l7 :: t) 7 = true) (hn : 7 < nL) (k : T X l y cc nL ret d (pc + 2) (l0 :: l1 :: l2 :: l3 :: l4 :: l5 :: l6 :: some (.int x) :: t) st σ Q) : T X l y cc nL ret d pc (l0 :: l1 :: l2 :: l3 :: l4 :: l5 :: l6 :: l7 :: t) (.int x :: st) σ Q := T_istore hd hk hn k
theorem T_astore7 {l0 l1 l2 l3 l4 l5 l6 l7 : Option Value} {t : List (Option Value)} {x : Nat} (hd : decode cc pc = .ok (.astore 7, 2)) (hk : okS (l0 :: l1 :: l2 :: l3 :: l4 :: l5 :: l6 :: l7 :: t) 7 = true) (hn : 7 < nL) (k : T X l y cc nL ret d (pc + 2) (l0 :: l1 :: l2 :: l3 :: l4 :: l5 :: l6 :: some (.ref x) :: t) st σ Q) : T X l y cc nL ret d pc (l0 :: l1 :: l2 :: l3 :: l4 :: l5 :: l6 :: l7 :: t) (.ref x :: st) σ Q := T_astore hd hk hn k
theorem T_iinc7 {l0 l1 l2 l3 l4 l5 l6 : Option Value} {t : List (Option Value)} {n : Int} {x v : Int32} (hd : decode cc pc = .ok (.iinc 7 n, 3)) (hv : x + Int32.ofInt n = v) (hk : okS (l0 :: l1 :: l2 :: l3 :: l4 :: l5 :: l6 :: some (.int x) :: t) 7 = true) (hn : 7 < nL) (k : T X l y cc nL ret d (pc + 3) (l0 :: l1 :: l2 :: l3 :: l4 :: l5 :: l6 :: some (.int v) :: t) st σ Q) : T X l y cc nL ret d pc (l0 :: l1 :: l2 :: l3 :: l4 :: l5 :: l6 :: some (.int x) :: t) st σ Q := T_iinc_g hd rfl hv hk hn k
theorem T_istore8 {l0 l1 l2 l3 l4 l5 l6 l7 l8 : Option Value} {t : List (Option Value)} {x : Int32} (hd : decode cc pc = .ok (.istore 8, 2)) (hk : okS (l0 :: l1 :: l2 :: l3 :: l4 :: l5 :: l6 :: l7 :: l8 :: t) 8 = true) (hn : 8 < nL) (k : T X l y cc nL ret d (pc + 2) (l0 :: l1 :: l2 :: l3 :: l4 :: l5 :: l6 :: l7 :: some (.int x) :: t) st σ Q) : T X l y cc nL ret d pc (l0 :: l1 :: l2 :: l3 :: l4 :: l5 :: l6 :: l7 :: l8 :: t) (.int x :: st) σ Q := T_istore hd hk hn k
theorem T_astore8 {l0 l1 l2 l3 l4 l5 l6 l7 l8 : Option Value} {t : List (Option Value)} {x : Nat} (hd : decode cc pc = .ok (.astore 8, 2)) (hk : okS (l0 :: l1 :: l2 :: l3 :: l4 :: l5 :: l6 :: l7 :: l8 :: t) 8 = true) (hn : 8 < nL) (k : T X l y cc nL ret d (pc + 2) (l0 :: l1 :: l2 :: l3 :: l4 :: l5 :: l6 :: l7 :: some (.ref x) :: t) st σ Q) : T X l y cc nL ret d pc (l0 :: l1 :: l2 :: l3 :: l4 :: l5 :: l6 :: l7 :: l8 :: t) (.ref x :: st) σ Q := T_astore hd hk hn k
theorem T_iinc8 {l0 l1 l2 l3 l4 l5 l6 l7 : Option Value} {t : List (Option Value)} {n : Int} {x v : Int32} (hd : decode cc pc = .ok (.iinc 8 n, 3)) (hv : x + Int32.ofInt n = v) (hk : okS (l0 :: l1 :: l2 :: l3 :: l4 :: l5 :: l6 :: l7 :: some (.int x) :: t) 8 = true) (hn : 8 < nL) (k : T X l y cc nL ret d (pc + 3) (l0 :: l1 :: l2 :: l3 :: l4 :: l5 :: l6 :: l7 :: some (.int v) :: t) st σ Q) : T X l y cc nL ret d pc (l0 :: l1 :: l2 :: l3 :: l4 :: l5 :: l6 :: l7 :: some (.int x) :: t) st σ Q := T_iinc_g hd rfl hv hk hn k
theorem T_istore9 {l0 l1 l2 l3 l4 l5 l6 l7 l8 l9 : Option Value} {t : List (Option Value)} {x : Int32} (hd : decode cc pc = .ok (.istore 9, 2)) (hk : okS (l0 :: l1 :: l2 :: l3 :: l4 :: l5 :: l6 :: l7 :: l8 :: l9 :: t) 9 = true) (hn : 9 < nL) (k : T X l y cc nL ret d (pc + 2) (l0 :: l1 :: l2 :: l3 :: l4 :: l5 :: l6 :: l7 :: l8 :: some (.int x) :: t) st σ Q) : T X l y cc nL ret d pc (l0 :: l1 :: l2 :: l3 :: l4 :: l5 :: l6 :: l7 :: l8 :: l9 :: t) (.int x :: st) σ Q := T_istore hd hk hn k
theorem T_astore9 {l0 l1 l2 l3 l4 l5 l6 l7 l8 l9 : Option Value} {t : List (Option Value)} {x : Nat} (hd : decode cc pc = .ok (.astore 9, 2)) (hk : okS (l0 :: l1 :: l2 :: l3 :: l4 :: l5 :: l6 :: l7 :: l8 :: l9 :: t) 9 = true) (hn : 9 < nL) (k : T X l y cc nL ret d (pc + 2) (l0 :: l1 :: l2 :: l3 :: l4 :: l5 :: l6 :: l7 :: l8 :: some (.ref x) :: t) st σ Q) : T X l y cc nL ret d pc (l0 :: l1 :: l2 :: l3 :: l4 :: l5 :: l6 :: l7 :: l8 :: l9 :: t) (.ref x :: st) σ Q := T_astore hd hk hn k
theorem T_iinc9 {l0 l1 l2 l3 l4 l5 l6 l7 l8 : Option Value} {t : List (Option Value)} {n : Int} {x v : Int32} (hd : decode cc pc = .ok (.iinc 9 n, 3)) (hv : x + Int32.ofInt n = v) (hk : okS (l0 :: l1 :: l2 :: l3 :: l4 :: l5 :: l6 :: l7 :: l8 :: some (.int x) :: t) 9 = true) (hn : 9 < nL) (k : T X l y cc nL ret d (pc + 3) (l0 :: l1 :: l2 :: l3 :: l4 :: l5 :: l6 :: l7 :: l8 :: some (.int v) :: t) st σ Q) : T X l y cc nL ret d pc (l0 :: l1 :: l2 :: l3 :: l4 :: l5 :: l6 :: l7 :: l8 :: some (.int x) :: t) st σ Q := T_iinc_g hd rfl hv hk hn k
theorem T_iadd {x z : Int32} (hd : decode cc pc = .ok (.iadd, 1)) (k : T X l y cc nL ret d (pc + 1) ls (.int (x + z) :: st) σ Q) : T X l y cc nL ret d pc ls (.int z :: .int x :: st) σ Q := by
  intro p e s m args below meth c H locs lsA hF hP hS hl
  exact lv_iadd hF.1 hF.2.1 hd (k p e s m args below meth c H locs lsA hF hP hS hl)
theorem T_isub {x z : Int32} (hd : decode cc pc = .ok (.isub, 1)) (k : T X l y cc nL ret d (pc + 1) ls (.int (x - z) :: st) σ Q) : T X l y cc nL ret d pc ls (.int z :: .int x :: st) σ Q := by
  intro p e s m args below meth c H locs lsA hF hP hS hl
  exact lv_isub hF.1 hF.2.1 hd (k p e s m args below meth c H locs lsA hF hP hS hl)
theorem T_imul {x z : Int32} (hd : decode cc pc = .ok (.imul, 1)) (k : T X l y cc nL ret d (pc + 1) ls (.int (x * z) :: st) σ Q) : T X l y cc nL ret d pc ls (.int z :: .int x :: st) σ Q := by
  intro p e s m args below meth c H locs lsA hF hP hS hl
  exact lv_imul hF.1 hF.2.1 hd (k p e s m args below meth c H locs lsA hF hP hS hl)
theorem T_iand {x z : Int32} (hd : decode cc pc = .ok (.iand, 1)) (k : T X l y cc nL ret d (pc + 1) ls (.int (x &&& z) :: st) σ Q) : T X l y cc nL ret d pc ls (.int z :: .int x :: st) σ Q := by
  intro p e s m args below meth c H locs lsA hF hP hS hl
  exact lv_iand hF.1 hF.2.1 hd (k p e s m args below meth c H locs lsA hF hP hS hl)
theorem T_ior {x z : Int32} (hd : decode cc pc = .ok (.ior, 1)) (k : T X l y cc nL ret d (pc + 1) ls (.int (x ||| z) :: st) σ Q) : T X l y cc nL ret d pc ls (.int z :: .int x :: st) σ Q := by
  intro p e s m args below meth c H locs lsA hF hP hS hl
  exact lv_ior hF.1 hF.2.1 hd (k p e s m args below meth c H locs lsA hF hP hS hl)
theorem T_ixor {x z : Int32} (hd : decode cc pc = .ok (.ixor, 1)) (k : T X l y cc nL ret d (pc + 1) ls (.int (x ^^^ z) :: st) σ Q) : T X l y cc nL ret d pc ls (.int z :: .int x :: st) σ Q := by
  intro p e s m args below meth c H locs lsA hF hP hS hl
  exact lv_ixor hF.1 hF.2.1 hd (k p e s m args below meth c H locs lsA hF hP hS hl)
theorem T_ishl {x z : Int32} (hd : decode cc pc = .ok (.ishl, 1)) (k : T X l y cc nL ret d (pc + 1) ls (.int (x <<< (z &&& 31)) :: st) σ Q) : T X l y cc nL ret d pc ls (.int z :: .int x :: st) σ Q := by
  intro p e s m args below meth c H locs lsA hF hP hS hl
  exact lv_ishl hF.1 hF.2.1 hd (k p e s m args below meth c H locs lsA hF hP hS hl)
theorem T_ishr {x z : Int32} (hd : decode cc pc = .ok (.ishr, 1)) (k : T X l y cc nL ret d (pc + 1) ls (.int (x >>> (z &&& 31)) :: st) σ Q) : T X l y cc nL ret d pc ls (.int z :: .int x :: st) σ Q := by
  intro p e s m args below meth c H locs lsA hF hP hS hl
  exact lv_ishr hF.1 hF.2.1 hd (k p e s m args below meth c H locs lsA hF hP hS hl)
theorem T_idiv {x z : Int32} (hd : decode cc pc = .ok (.idiv, 1)) (hz : ¬ z = 0) (k : T X l y cc nL ret d (pc + 1) ls (.int (x / z) :: st) σ Q) : T X l y cc nL ret d pc ls (.int z :: .int x :: st) σ Q := by
  intro p e s m args below meth c H locs lsA hF hP hS hl
  exact lv_idiv hF.1 hF.2.1 hd hz (k p e s m args below meth c H locs lsA hF hP hS hl)
theorem T_irem {x z : Int32} (hd : decode cc pc = .ok (.irem, 1)) (hz : ¬ z = 0) (k : T X l y cc nL ret d (pc + 1) ls (.int (x - x / z * z) :: st) σ Q) : T X l y cc nL ret d pc ls (.int z :: .int x :: st) σ Q := by
  intro p e s m args below meth c H locs lsA hF hP hS hl
  exact lv_irem hF.1 hF.2.1 hd hz (k p e s m args below meth c H locs lsA hF hP hS hl)
theorem T_iushr {x z v : Int32} (hd : decode cc pc = .ok (.iushr, 1)) (hv : (x.toUInt32 >>> (z.toUInt32 &&& Int32.toUInt32 31)).toInt32 = v) (k : T X l y cc nL ret d (pc + 1) ls (.int v :: st) σ Q) : T X l y cc nL ret d pc ls (.int z :: .int x :: st) σ Q := by
  intro p e s m args below meth c H locs lsA hF hP hS hl
  exact lv_iushr hF.1 hF.2.1 hd hv (k p e s m args below meth c H locs lsA hF hP hS hl)
theorem T_ladd {x z : Int64} (hd : decode cc pc = .ok (.ladd, 1)) (k : T X l y cc nL ret d (pc + 1) ls (.long (x + z) :: st) σ Q) : T X l y cc nL ret d pc ls (.long z :: .long x :: st) σ Q := by
  intro p e s m args below meth c H locs lsA hF hP hS hl
  exact lv_ladd hF.1 hF.2.1 hd (k p e s m args below meth c H locs lsA hF hP hS hl)
theorem T_lsub {x z : Int64} (hd : decode cc pc = .ok (.lsub, 1)) (k : T X l y cc nL ret d (pc + 1) ls (.long (x - z) :: st) σ Q) : T X l y cc nL ret d pc ls (.long z :: .long x :: st) σ Q := by
  intro p e s m args below meth c H locs lsA hF hP hS hl
  exact lv_lsub hF.1 hF.2.1 hd (k p e s m args below meth c H locs lsA hF hP hS hl)
theorem T_lmul {x z : Int64} (hd : decode cc pc = .ok (.lmul, 1)) (k : T X l y cc nL ret d (pc + 1) ls (.long (x * z) :: st) σ Q) : T X l y cc nL ret d pc ls (.long z :: .long x :: st) σ Q := by
  intro p e s m args below meth c H locs lsA hF hP hS hl
  exact lv_lmul hF.1 hF.2.1 hd (k p e s m args below meth c H locs lsA hF hP hS hl)
theorem T_lcmp {x z : Int64} (hd : decode cc pc = .ok (.lcmp, 1)) (k : T X l y cc nL ret d (pc + 1) ls (.int (lg_cmp x z) :: st) σ Q) : T X l y cc nL ret d pc ls (.long z :: .long x :: st) σ Q := by
  intro p e s m args below meth c H locs lsA hF hP hS hl
  exact W.lcmp hF.1 hF.2.1 hd (k p e s m args below meth c H locs lsA hF hP hS hl)
theorem T_i2l {x : Int32} (hd : decode cc pc = .ok (.i2l, 1)) (k : T X l y cc nL ret d (pc + 1) ls (.long x.toInt64 :: st) σ Q) : T X l y cc nL ret d pc ls (.int x :: st) σ Q := by
  intro p e s m args below meth c H locs lsA hF hP hS hl
  exact lv_i2l hF.1 hF.2.1 hd rfl (k p e s m args below meth c H locs lsA hF hP hS hl)
theorem T_i2c {x v : Int32} (hd : decode cc pc = .ok (.i2c, 1)) (hv : (x.toUInt32 % 65536).toInt32 = v) (k : T X l y cc nL ret d (pc + 1) ls (.int v :: st) σ Q) : T X l y cc nL ret d pc ls (.int x :: st) σ Q := by
  intro p e s m args below meth c H locs lsA hF hP hS hl
  exact lv_i2c hF.1 hF.2.1 hd hv (k p e s m args below meth c H locs lsA hF hP hS hl)
theorem T_dup {v : Value} (hd : decode cc pc = .ok (.dup, 1)) (hv : v.category = 1) (k : T X l y cc nL ret d (pc + 1) ls (v :: v :: st) σ Q) : T X l y cc nL ret d pc ls (v :: st) σ Q := by
  intro p e s m args below meth c H locs lsA hF hP hS hl
  exact lv_dup hF.1 hF.2.1 hd hv (k p e s m args below meth c H locs lsA hF hP hS hl)
theorem T_pop {v : Value} (hd : decode cc pc = .ok (.pop, 1)) (hv : v.category = 1) (k : T X l y cc nL ret d (pc + 1) ls st σ Q) : T X l y cc nL ret d pc ls (v :: st) σ Q := by
  intro p e s m args below meth c H locs lsA hF hP hS hl
  exact lv_pop hF.1 hF.2.1 hd hv (k p e s m args below meth c H locs lsA hF hP hS hl)
theorem T_dup2 {v w : Value} (hd : decode cc pc = .ok (.dup2, 1)) (hv : v.category = 1) (hw : w.category = 1) (k : T X l y cc nL ret d (pc + 1) ls (v :: w :: v :: w :: st) σ Q) : T X l y cc nL ret d pc ls (v :: w :: st) σ Q := by
  intro p e s m args below meth c H locs lsA hF hP hS hl
  exact lv_dup2_11 hF.1 hF.2.1 hd hv hw (k p e s m args below meth c H locs lsA hF hP hS hl)
theorem T_goto {off : Int} (tgt : Nat) (hd : decode cc pc = .ok (.goto off, 3)) (ht : (pc : Int) + off = (tgt : Int)) (k : T X l y cc nL ret d tgt ls st σ Q) : T X l y cc nL ret d pc ls st σ Q := by
  intro p e s m args below meth c H locs lsA hF hP hS hl
  exact lv_goto hF.1 hF.2.1 hd ht (k p e s m args below meth c H locs lsA hF hP hS hl)
theorem T_if_eq {x : Int32} {off : Int} (tgt : Nat) (hd : decode cc pc = .ok (.ifCond .eq off, 3)) (ht : (pc : Int) + off = (tgt : Int)) (kt : x = 0 → T X l y cc nL ret d tgt ls st σ Q) (kf : ¬ x = 0 → T X l y cc nL ret d (pc + 3) ls st σ Q) : T X l y cc nL ret d pc ls (.int x :: st) σ Q := by
  intro p e s m args below meth c H locs lsA hF hP hS hl
  exact lv_if_eq hF.1 hF.2.1 hd ht (fun h => kt h p e s m args below meth c H locs lsA hF hP hS hl) (fun h => kf h p e s m args below meth c H locs lsA hF hP hS hl)
theorem T_if_ne {x : Int32} {off : Int} (tgt : Nat) (hd : decode cc pc = .ok (.ifCond .ne off, 3)) (ht : (pc : Int) + off = (tgt : Int)) (kt : ¬ x = 0 → T X l y cc nL ret d tgt ls st σ Q) (kf : x = 0 → T X l y cc nL ret d (pc + 3) ls st σ Q) : T X l y cc nL ret d pc ls (.int x :: st) σ Q := by
  intro p e s m args below meth c H locs lsA hF hP hS hl
  exact lv_if_ne hF.1 hF.2.1 hd ht (fun h => kt h p e s m args below meth c H locs lsA hF hP hS hl) (fun h => kf h p e s m args below meth c H locs lsA hF hP hS hl)
theorem T_if_lt {x : Int32} {off : Int} (tgt : Nat) (hd : decode cc pc = .ok (.ifCond .lt off, 3)) (ht : (pc : Int) + off = (tgt : Int)) (kt : x < 0 → T X l y cc nL ret d tgt ls st σ Q) (kf : ¬ x < 0 → T X l y cc nL ret d (pc + 3) ls st σ Q) : T X l y cc nL ret d pc ls (.int x :: st) σ Q := by
  intro p e s m args below meth c H locs lsA hF hP hS hl
  exact lv_if_lt hF.1 hF.2.1 hd ht (fun h => kt h p e s m args below meth c H locs lsA hF hP hS hl) (fun h => kf h p e s m args below meth c H locs lsA hF hP hS hl)
theorem T_if_ge {x : Int32} {off : Int} (tgt : Nat) (hd : decode cc pc = .ok (.ifCond .ge off, 3)) (ht : (pc : Int) + off = (tgt : Int)) (kt : 0 ≤ x → T X l y cc nL ret d tgt ls st σ Q) (kf : ¬ 0 ≤ x → T X l y cc nL ret d (pc + 3) ls st σ Q) : T X l y cc nL ret d pc ls (.int x :: st) σ Q := by
  intro p e s m args below meth c H locs lsA hF hP hS hl
  exact lv_if_ge hF.1 hF.2.1 hd ht (fun h => kt h p e s m args below meth c H locs lsA hF hP hS hl) (fun h => kf h p e s m args below meth c H locs lsA hF hP hS hl)
theorem T_if_gt {x : Int32} {off : Int} (tgt : Nat) (hd : decode cc pc = .ok (.ifCond .gt off, 3)) (ht : (pc : Int) + off = (tgt : Int)) (kt : 0 < x → T X l y cc nL ret d tgt ls st σ Q) (kf : ¬ 0 < x → T X l y cc nL ret d (pc + 3) ls st σ Q) : T X l y cc nL ret d pc ls (.int x :: st) σ Q := by
  intro p e s m args below meth c H locs lsA hF hP hS hl
  exact lv_if_gt hF.1 hF.2.1 hd ht (fun h => kt h p e s m args below meth c H locs lsA hF hP hS hl) (fun h => kf h p e s m args below meth c H locs lsA hF hP hS hl)
theorem T_if_le {x : Int32} {off : Int} (tgt : Nat) (hd : decode cc pc = .ok (.ifCond .le off, 3)) (ht : (pc : Int) + off = (tgt : Int)) (kt : x ≤ 0 → T X l y cc nL ret d tgt ls st σ Q) (kf : ¬ x ≤ 0 → T X l y cc nL ret d (pc + 3) ls st σ Q) : T X l y cc nL ret d pc ls (.int x :: st) σ Q := by
  intro p e s m args below meth c H locs lsA hF hP hS hl
  exact lv_if_le hF.1 hF.2.1 hd ht (fun h => kt h p e s m args below meth c H locs lsA hF hP hS hl) (fun h => kf h p e s m args below meth c H locs lsA hF hP hS hl)
theorem T_icmp_eq {x z : Int32} {off : Int} (tgt : Nat) (hd : decode cc pc = .ok (.if_icmp .eq off, 3)) (ht : (pc : Int) + off = (tgt : Int)) (kt : x = z → T X l y cc nL ret d tgt ls st σ Q) (kf : ¬ x = z → T X l y cc nL ret d (pc + 3) ls st σ Q) : T X l y cc nL ret d pc ls (.int z :: .int x :: st) σ Q := by
  intro p e s m args below meth c H locs lsA hF hP hS hl
  exact lv_icmp_eq hF.1 hF.2.1 hd ht (fun h => kt h p e s m args below meth c H locs lsA hF hP hS hl) (fun h => kf h p e s m args below meth c H locs lsA hF hP hS hl)
theorem T_icmp_ne {x z : Int32} {off : Int} (tgt : Nat) (hd : decode cc pc = .ok (.if_icmp .ne off, 3)) (ht : (pc : Int) + off = (tgt : Int)) (kt : ¬ x = z → T X l y cc nL ret d tgt ls st σ Q) (kf : x = z → T X l y cc nL ret d (pc + 3) ls st σ Q) : T X l y cc nL ret d pc ls (.int z :: .int x :: st) σ Q := by
  intro p e s m args below meth c H locs lsA hF hP hS hl
  exact lv_icmp_ne hF.1 hF.2.1 hd ht (fun h => kt h p e s m args below meth c H locs lsA hF hP hS hl) (fun h => kf h p e s m args below meth c H locs lsA hF hP hS hl)
theorem T_icmp_lt {x z : Int32} {off : Int} (tgt : Nat) (hd : decode cc pc = .ok (.if_icmp .lt off, 3)) (ht : (pc : Int) + off = (tgt : Int)) (kt : x < z → T X l y cc nL ret d tgt ls st σ Q) (kf : ¬ x < z → T X l y cc nL ret d (pc + 3) ls st σ Q) : T X l y cc nL ret d pc ls (.int z :: .int x :: st) σ Q := by
  intro p e s m args below meth c H locs lsA hF hP hS hl
  exact lv_icmp_lt hF.1 hF.2.1 hd ht (fun h => kt h p e s m args below meth c H locs lsA hF hP hS hl) (fun h => kf h p e s m args below meth c H locs lsA hF hP hS hl)
theorem T_icmp_ge {x z : Int32} {off : Int} (tgt : Nat) (hd : decode cc pc = .ok (.if_icmp .ge off, 3)) (ht : (pc : Int) + off = (tgt : Int)) (kt : z ≤ x → T X l y cc nL ret d tgt ls st σ Q) (kf : ¬ z ≤ x → T X l y cc nL ret d (pc + 3) ls st σ Q) : T X l y cc nL ret d pc ls (.int z :: .int x :: st) σ Q := by
  intro p e s m args below meth c H locs lsA hF hP hS hl
  exact lv_icmp_ge hF.1 hF.2.1 hd ht (fun h => kt h p e s m args below meth c H locs lsA hF hP hS hl) (fun h => kf h p e s m args below meth c H locs lsA hF hP hS hl)
theorem T_icmp_gt {x z : Int32} {off : Int} (tgt : Nat) (hd : decode cc pc = .ok (.if_icmp .gt off, 3)) (ht : (pc : Int) + off = (tgt : Int)) (kt : z < x → T X l y cc nL ret d tgt ls st σ Q) (kf : ¬ z < x → T X l y cc nL ret d (pc + 3) ls st σ Q) : T X l y cc nL ret d pc ls (.int z :: .int x :: st) σ Q := by
  intro p e s m args below meth c H locs lsA hF hP hS hl
  exact lv_icmp_gt hF.1 hF.2.1 hd ht (fun h => kt h p e s m args below meth c H locs lsA hF hP hS hl) (fun h => kf h p e s m args below meth c H locs lsA hF hP hS hl)
theorem T_icmp_le {x z : Int32} {off : Int} (tgt : Nat) (hd : decode cc pc = .ok (.if_icmp .le off, 3)) (ht : (pc : Int) + off = (tgt : Int)) (kt : x ≤ z → T X l y cc nL ret d tgt ls st σ Q) (kf : ¬ x ≤ z → T X l y cc nL ret d (pc + 3) ls st σ Q) : T X l y cc nL ret d pc ls (.int z :: .int x :: st) σ Q := by
  intro p e s m args below meth c H locs lsA hF hP hS hl
  exact lv_icmp_le hF.1 hF.2.1 hd ht (fun h => kt h p e s m args below meth c H locs lsA hF hP hS hl) (fun h => kf h p e s m args below meth c H locs lsA hF hP hS hl)
theorem T_tableOut {dflt lo hi : Int} {offs : Array Int} {len : Nat} {x : Int32} (tgt : Nat) (hd : decode cc pc = .ok (.tableswitch dflt lo hi offs, len)) (h : x.toInt < lo ∨ hi < x.toInt) (ht : (pc : Int) + dflt = (tgt : Int)) (k : T X l y cc nL ret d tgt ls st σ Q) : T X l y cc nL ret d pc ls (.int x :: st) σ Q := by
  intro p e s m args below meth c H locs lsA hF hP hS hl
  exact lv_tableOut hF.1 hF.2.1 hd h ht (k p e s m args below meth c H locs lsA hF hP hS hl)
theorem T_tableIn {dflt lo hi : Int} {offs : Array Int} {len : Nat} {x : Int32} {off : Int} (tgt : Nat) (hd : decode cc pc = .ok (.tableswitch dflt lo hi offs, len)) (h1 : ¬ x.toInt < lo) (h2 : ¬ hi < x.toInt) (ho : offs[(x.toInt - lo).toNat]? = some off) (ht : (pc : Int) + off = (tgt : Int)) (k : T X l y cc nL ret d tgt ls st σ Q) : T X l y cc nL ret d pc ls (.int x :: st) σ Q := by
  intro p e s m args below meth c H locs lsA hF hP hS hl
  exact lv_tableIn hF.1 hF.2.1 hd h1 h2 ho ht (k p e s m args below meth c H locs lsA hF hP hS hl)
theorem T_iret {v : Int32} (hr : ret = some .int) (hd : decode cc pc = .ok (.ireturn, 1)) (hQ : Q (some (.int v)) σ) : T X l y cc nL ret d pc ls [.int v] σ Q := by
  intro p e s m args below meth c H locs lsA hF hP hS hl
  exact W.iret hF.1 hF.2.1 (hF.2.2.2.1.trans hr) (fun t ht _ => ⟨⟨_, σ, rfl, hQ, by rw [ht]; exact hP⟩, hS.F ht⟩) hS.2.2 hd hF.2.2.2.2.1
theorem T_zret {v : Int32} {ty : FieldType} (hr : ret = some ty) (hn : narrow ty (.int v) = .int v) (hd : decode cc pc = .ok (.ireturn, 1)) (hQ : Q (some (.int v)) σ) : T X l y cc nL ret d pc ls [.int v] σ Q := by
  intro p e s m args below meth c H locs lsA hF hP hS hl
  exact W.zret hF.1 hF.2.1 (hF.2.2.2.1.trans hr) hn (fun t ht _ => ⟨⟨_, σ, rfl, hQ, by rw [ht]; exact hP⟩, hS.F ht⟩) hS.2.2 hd hF.2.2.2.2.1
theorem T_vret (hr : ret = none) (hd : decode cc pc = .ok (.return_, 1)) (hQ : Q none σ) : T X l y cc nL ret d pc ls [] σ Q := by
  intro p e s m args below meth c H locs lsA hF hP hS hl
  exact W.vret hF.1 hF.2.1 (hF.2.2.2.1.trans hr) (fun t ht _ => ⟨⟨_, σ, rfl, hQ, by rw [ht]; exact hP⟩, hS.F ht⟩) hS.2.2 hd hF.2.2.2.2.1
theorem T_get {K r k ci N index : Nat} {C : String} {Tt : u_T} {g : Nat → Int32} {fs : List Value} {v : Value} (hg : σ K r k = g) (hid : (K, r, k) ∈ ids X) (hc : cel X g K r k = .inr (ci, fs)) (hcl : vwCl[ci]? = some (C, Tt, N)) (hin : ∀ w ∈ u_ws C Tt N, w ∈ tb) (f : Nat) (hf : f < N) (hlink : Cond.fieldLink y.cls index (Tt f).1 (Tt f).2.1 (Tt f).2.2.1 ∈ tb) (hv : fs[f]? = some v) (hd : decode cc pc = .ok (.getfield index, 3))
    (kk : T X l y cc nL ret d (pc + 3) ls (v :: st) σ Q) : T X l y cc nL ret d pc ls (.ref (adr X K r k) :: st) σ Q := by
  intro p e s m args below meth c H locs lsA hF hP hS hl
  obtain ⟨i, -, hi⟩ := wl_get X σ hid
  rw [hg, hc] at hi
  exact va_get (C := C) (T := Tt) (N := N) hF.1 hF.2.1 hF.2.2.2.2.2.2.1 hin hF.2.2.2.2.2.1 hF.2.2.2.2.2.2.2.1.2.1 hP i hi hcl f hf (hF.2.2.2.2.2.2.1 _ hlink) (fun _ h => h) hv hd (kk p e s m args below meth c H locs lsA hF hP hS hl)
/-- an int field is written -/
theorem T_put {K r k ci N index : Nat} {C : String} {Tt : u_T} {h : Rg} {fs : List Value} {x : Int32} {σ' : Hp} (hh : σ K r = h) (hid : (K, r, k) ∈ ids X) (hc : cel X (h k) K r k = .inr (ci, fs)) (hcl : vwCl[ci]? = some (C, Tt, N)) (hin : ∀ w ∈ u_ws C Tt N, w ∈ tb) (ty0 : Nat → FieldType) (hty : ∀ k, k < N → parseFieldDescriptor (Tt k).2.2.1 = some (ty0 k)) (hnm : ∀ a, a < N → ∀ b, b < N → a ≠ b → (Tt a).2.1 ≠ (Tt b).2.1) (f : Nat) (hf : f < N) (hfin : (Tt f).2.2.2 = false) (hI : ty0 f = .int) (hlink : Cond.fieldLink y.cls index (Tt f).1 (Tt f).2.1 (Tt f).2.2.1 ∈ tb) (hfl : f < fs.length) (hset : cel X (upd (h k) f x) K r k = .inr (ci, fs.set f (.int x))) (hs : setR σ K r (up2 h k f x) = σ') (hd : decode cc pc = .ok (.putfield index, 3))
    (kk : T X l y cc nL ret d (pc + 3) ls st σ' Q) : T X l y cc nL ret d pc ls (.int x :: .ref (adr X K r k) :: st) σ Q := by
  intro p e s m args below meth c H locs lsA hF hP hS hl
  subst hs
  subst hh
  obtain ⟨i, hi0, hi⟩ := wl_get X σ hid
  rw [hc] at hi
  have hX := hF.2.2.2.2.2.2.2.1.1
  refine va_put (C := C) (T := Tt) (N := N) (ty := .int) hF.1 hF.2.1 hF.2.2.2.2.2.2.1 hin ty0 hty hnm hF.2.2.2.2.2.1 hF.2.2.2.2.2.2.2.1.2.1 hP (wl_D hX σ) hS i hi hcl f hf (hF.2.2.2.2.2.2.1 _ hlink) (fun _ h => h) hfin (by rw [hty f hf, hI]) rfl rfl hfl hd (fun H1 locs1 hP1 _ hS1 => ?_)
  refine kk p e s m args below meth c H1 locs1 lsA hF ?_ hS1 hl
  rw [wl_set (σ' := setR σ K r (up2 (σ K r) k f x)) hX hi0 ?_ ?_] at hP1
  · exact hP1
  · intro K' r' k' hn
    unfold setR
    split
    · rename_i h
      rw [h.1, h.2, up2_ne (fun e => hn ⟨h.1, h.2, e⟩)]
    · rfl
  · rw [setR_self, up2_same]
    exact hset
theorem T_iald {K r k n : Nat} {g : Nat → Int32} {i : Int32} (hg : σ K r k = g) (hid : (K, r, k) ∈ ids X) (hc : cel X g K r k = arI X 0 n g) (hn : n < 2 ^ 31) (j : Nat) (hj : j < n) (hi : i = nI j) (hd : decode cc pc = .ok (.iaload, 1))
    (kk : T X l y cc nL ret d (pc + 1) ls (.int (g j) :: st) σ Q) : T X l y cc nL ret d pc ls (.int i :: .ref (adr X K r k) :: st) σ Q := by
  intro p e s m args below meth c H locs lsA hF hP hS hl
  obtain ⟨q, -, hq⟩ := wl_get X σ hid
  rw [hg, hc] at hq
  subst hi
  refine va_iald hF.1 hF.2.1 hF.2.2.2.2.2.2.2.1.2.1 hP q 0 hq rfl (vp_in_nI hj hn) hd ?_
  rw [nI_clamp (by omega)]
  exact kk p e s m args below meth c H locs lsA hF hP hS hl
theorem T_cald {K r k n : Nat} {g : Nat → Int32} {i : Int32} (hg : σ K r k = g) (hid : (K, r, k) ∈ ids X) (hc : cel X g K r k = arI X 1 n g) (hn : n < 2 ^ 31) (j : Nat) (hj : j < n) (hi : i = nI j) (hd : decode cc pc = .ok (.caload, 1))
    (kk : T X l y cc nL ret d (pc + 1) ls (.int (g j) :: st) σ Q) : T X l y cc nL ret d pc ls (.int i :: .ref (adr X K r k) :: st) σ Q := by
  intro p e s m args below meth c H locs lsA hF hP hS hl
  obtain ⟨q, -, hq⟩ := wl_get X σ hid
  rw [hg, hc] at hq
  subst hi
  refine va_cald hF.1 hF.2.1 hF.2.2.2.2.2.2.2.1.2.1 hP q 1 hq rfl (vp_in_nI hj hn) hd ?_
  rw [nI_clamp (by omega)]
  exact kk p e s m args below meth c H locs lsA hF hP hS hl
theorem T_zald {K r k n : Nat} {g : Nat → Int32} {i : Int32} (hg : σ K r k = g) (hid : (K, r, k) ∈ ids X) (hc : cel X g K r k = arI X 2 n g) (hn : n < 2 ^ 31) (j : Nat) (hj : j < n) (hi : i = nI j) (hd : decode cc pc = .ok (.baload, 1))
    (kk : T X l y cc nL ret d (pc + 1) ls (.int (g j) :: st) σ Q) : T X l y cc nL ret d pc ls (.int i :: .ref (adr X K r k) :: st) σ Q := by
  intro p e s m args below meth c H locs lsA hF hP hS hl
  obtain ⟨q, -, hq⟩ := wl_get X σ hid
  rw [hg, hc] at hq
  subst hi
  refine va_zald hF.1 hF.2.1 hF.2.2.2.2.2.2.2.1.2.1 hP q 2 hq rfl (vp_in_nI hj hn) hd ?_
  rw [nI_clamp (by omega)]
  exact kk p e s m args below meth c H locs lsA hF hP hS hl
theorem T_iast {K r k n : Nat} {h : Rg} {i x : Int32} {σ' : Hp} (hh : σ K r = h) (hid : (K, r, k) ∈ ids X) (hc : ∀ g : Nat → Int32, cel X g K r k = arI X 0 n g) (hn : n < 2 ^ 31) (j : Nat) (hj : j < n) (hi : i = nI j) (hs : setR σ K r (up2 h k j x) = σ') (hd : decode cc pc = .ok (.iastore, 1))
    (kk : T X l y cc nL ret d (pc + 1) ls st σ' Q) : T X l y cc nL ret d pc ls (.int x :: .int i :: .ref (adr X K r k) :: st) σ Q := by
  intro p e s m args below meth c H locs lsA hF hP hS hl
  subst hs
  subst hh
  subst hi
  obtain ⟨q, hq0, hq⟩ := wl_get X σ hid
  rw [hc] at hq
  have hX := hF.2.2.2.2.2.2.2.1.1
  refine va_iast hF.1 hF.2.1 hF.2.2.2.2.2.2.2.1.2.1 hP (wl_D hX σ) hS q 0 hq rfl (vp_in_nI hj hn) hd (fun H1 locs1 hP1 _ hS1 => ?_)
  rw [nI_clamp (by omega)] at hP1
  refine kk p e s m args below meth c H1 locs1 lsA hF ?_ hS1 hl
  rw [wl_set (σ' := setR σ K r (up2 (σ K r) k j x)) hX hq0 ?_ ?_] at hP1
  · exact hP1
  · intro K' r' k' hn
    unfold setR
    split
    · rename_i h
      rw [h.1, h.2, up2_ne (fun e => hn ⟨h.1, h.2, e⟩)]
    · rfl
  · rw [setR_self, up2_same]
    exact hc _
theorem T_cast {K r k n : Nat} {h : Rg} {i x : Int32} {σ' : Hp} (hh : σ K r = h) (hid : (K, r, k) ∈ ids X) (hc : ∀ g : Nat → Int32, cel X g K r k = arI X 1 n g) (hn : n < 2 ^ 31) (j : Nat) (hj : j < n) (hi : i = nI j) (hs : setR σ K r (up2 h k j (vp_nar .char x)) = σ') (hd : decode cc pc = .ok (.castore, 1))
    (kk : T X l y cc nL ret d (pc + 1) ls st σ' Q) : T X l y cc nL ret d pc ls (.int x :: .int i :: .ref (adr X K r k) :: st) σ Q := by
  intro p e s m args below meth c H locs lsA hF hP hS hl
  subst hs
  subst hh
  subst hi
  obtain ⟨q, hq0, hq⟩ := wl_get X σ hid
  rw [hc] at hq
  have hX := hF.2.2.2.2.2.2.2.1.1
  refine va_cast hF.1 hF.2.1 hF.2.2.2.2.2.2.2.1.2.1 hP (wl_D hX σ) hS q 1 hq rfl (vp_in_nI hj hn) hd (fun H1 locs1 hP1 _ hS1 => ?_)
  rw [nI_clamp (by omega)] at hP1
  refine kk p e s m args below meth c H1 locs1 lsA hF ?_ hS1 hl
  rw [wl_set (σ' := setR σ K r (up2 (σ K r) k j (vp_nar .char x))) hX hq0 ?_ ?_] at hP1
  · exact hP1
  · intro K' r' k' hn
    unfold setR
    split
    · rename_i h
      rw [h.1, h.2, up2_ne (fun e => hn ⟨h.1, h.2, e⟩)]
    · rfl
  · rw [setR_self, up2_same]
    exact hc _
theorem T_zast {K r k n : Nat} {h : Rg} {i x : Int32} {σ' : Hp} (hh : σ K r = h) (hid : (K, r, k) ∈ ids X) (hc : ∀ g : Nat → Int32, cel X g K r k = arI X 2 n g) (hn : n < 2 ^ 31) (j : Nat) (hj : j < n) (hi : i = nI j) (hs : setR σ K r (up2 h k j (vp_nar .boolean x)) = σ') (hd : decode cc pc = .ok (.bastore, 1))
    (kk : T X l y cc nL ret d (pc + 1) ls st σ' Q) : T X l y cc nL ret d pc ls (.int x :: .int i :: .ref (adr X K r k) :: st) σ Q := by
  intro p e s m args below meth c H locs lsA hF hP hS hl
  subst hs
  subst hh
  subst hi
  obtain ⟨q, hq0, hq⟩ := wl_get X σ hid
  rw [hc] at hq
  have hX := hF.2.2.2.2.2.2.2.1.1
  refine va_zast hF.1 hF.2.1 hF.2.2.2.2.2.2.2.1.2.1 hP (wl_D hX σ) hS q 2 hq rfl (vp_in_nI hj hn) hd (fun H1 locs1 hP1 _ hS1 => ?_)
  rw [nI_clamp (by omega)] at hP1
  refine kk p e s m args below meth c H1 locs1 lsA hF ?_ hS1 hl
  rw [wl_set (σ' := setR σ K r (up2 (σ K r) k j (vp_nar .boolean x))) hX hq0 ?_ ?_] at hP1
  · exact hP1
  · intro K' r' k' hn
    unfold setR
    split
    · rename_i h
      rw [h.1, h.2, up2_ne (fun e => hn ⟨h.1, h.2, e⟩)]
    · rfl
  · rw [setR_self, up2_same]
    exact hc _
theorem T_aald {K r k n : Nat} {g : Nat → Int32} {f : Nat → Option Nat} {i : Int32} {a : Nat} (hg : σ K r k = g) (hid : (K, r, k) ∈ ids X) (hc : cel X g K r k = arR X n f) (hn : n < 2 ^ 31) (j : Nat) (hj : j < n) (hi : i = nI j) (hf : f j = some a) (hd : decode cc pc = .ok (.aaload, 1))
    (kk : T X l y cc nL ret d (pc + 1) ls (.ref a :: st) σ Q) : T X l y cc nL ret d pc ls (.int i :: .ref (adr X K r k) :: st) σ Q := by
  intro p e s m args below meth c H locs lsA hF hP hS hl
  obtain ⟨q, -, hq⟩ := wl_get X σ hid
  rw [hg, hc] at hq
  subst hi
  refine va_aldq hF.1 hF.2.1 hF.2.2.2.2.2.2.2.1.2.1 hP q 3 hq rfl (vp_in_nI hj hn) hd ?_
  rw [nI_clamp (by omega), hf]
  exact kk p e s m args below meth c H locs lsA hF hP hS hl
theorem T_alen {K r k n c0 : Nat} {g : Nat → Int32} {v : Int32} (hg : σ K r k = g) (hid : (K, r, k) ∈ ids X) (hc : cel X g K r k = arI X c0 n g) (hc0 : c0 < 3) (hv : Int32.ofNat n = v) (hd : decode cc pc = .ok (.arraylength, 1))
    (kk : T X l y cc nL ret d (pc + 1) ls (.int v :: st) σ Q) : T X l y cc nL ret d pc ls (.ref (adr X K r k) :: st) σ Q := by
  intro p e s m args below meth c H locs lsA hF hP hS hl
  obtain ⟨q, -, hq⟩ := wl_get X σ hid
  rw [hg, hc] at hq
  rcases (show c0 = 0 ∨ c0 = 1 ∨ c0 = 2 by omega) with rfl | rfl | rfl
  · exact va_alen hF.1 hF.2.1 hF.2.2.2.2.2.2.2.1.2.1 hP q 0 hq (ty := .int) rfl hv hd (kk p e s m args below meth c H locs lsA hF hP hS hl)
  · exact va_alen hF.1 hF.2.1 hF.2.2.2.2.2.2.2.1.2.1 hP q 1 hq (ty := .char) rfl hv hd (kk p e s m args below meth c H locs lsA hF hP hS hl)
  · exact va_alen hF.1 hF.2.1 hF.2.2.2.2.2.2.2.1.2.1 hP q 2 hq (ty := .boolean) rfl hv hd (kk p e s m args below meth c H locs lsA hF hP hS hl)
theorem T_max {index : Nat} {x z : Int32} (hw : Cond.methodLink y.cls index Lib.Math.max.name ∈ tb) (hs : Cond.static Lib.Math.max.name ∈ tb) (hi : Cond.initialized "java/lang/Math" ∈ tb) (hco : Cond.code Lib.Math.max.name Lib.Math.max.code 2 (some .int) ∈ tb) (hd1 : 1 ≤ d) (hr : (st.map fun v => v.category).sum ≤ 8) (hd : decode cc pc = .ok (.invokestatic index, 3))
    (kk : T X l y cc nL ret d (pc + 3) ls (.int (if x < z then z else x) :: st) σ Q) : T X l y cc nL ret d pc ls (.int z :: .int x :: st) σ Q := by
  intro p e s m args below meth c H locs lsA hF hP hS hl
  exact va_mmax hF.1 hF.2.1 (hF.2.2.1.trans hl.1.symm) hF.2.2.2.2.2.1 (hF.2.2.2.2.2.2.1 _ hw) (hF.2.2.2.2.2.2.1 _ hs) (hF.2.2.2.2.2.2.1 _ hi) (hF.2.2.2.2.2.2.1 _ hco) hd1 (by show _ ≤ 36 * d; omega) (Nat.le_refl _) (Nat.le_refl _) hd (kk p e s m args below meth c H locs lsA hF hP hS hl)
theorem T_min {index : Nat} {x z : Int32} (hw : Cond.methodLink y.cls index Lib.Math.min.name ∈ tb) (hs : Cond.static Lib.Math.min.name ∈ tb) (hi : Cond.initialized "java/lang/Math" ∈ tb) (hco : Cond.code Lib.Math.min.name Lib.Math.min.code 2 (some .int) ∈ tb) (hd1 : 1 ≤ d) (hr : (st.map fun v => v.category).sum ≤ 8) (hd : decode cc pc = .ok (.invokestatic index, 3))
    (kk : T X l y cc nL ret d (pc + 3) ls (.int (if z < x then z else x) :: st) σ Q) : T X l y cc nL ret d pc ls (.int z :: .int x :: st) σ Q := by
  intro p e s m args below meth c H locs lsA hF hP hS hl
  exact va_mmin hF.1 hF.2.1 (hF.2.2.1.trans hl.1.symm) hF.2.2.2.2.2.1 (hF.2.2.2.2.2.2.1 _ hw) (hF.2.2.2.2.2.2.1 _ hs) (hF.2.2.2.2.2.2.1 _ hi) (hF.2.2.2.2.2.2.1 _ hco) hd1 (by show _ ≤ 36 * d; omega) (Nat.le_refl _) (Nat.le_refl _) hd (kk p e s m args below meth c H locs lsA hF hP hS hl)
/-- System.arraycopy of a whole int array of a region into the same cell of another region of its kind -/
theorem T_acopy {index K r r' k n : Nat} {h' : Rg} {g : Nat → Int32} {σ' : Hp} {sp dp nn : Int32} (hw : Cond.methodLink y.cls index arraycopyName ∈ tb) (hn1 : Cond.native arraycopyName ∈ tb) (hst : Cond.static arraycopyName ∈ tb) (hini : Cond.initialized "java/lang/System" ∈ tb) (hg : σ K r k = g) (hh : σ K r' = h') (hid : (K, r, k) ∈ ids X) (hid' : (K, r', k) ∈ ids X) (hc : ∀ g : Nat → Int32, cel X g K r k = arI X 0 n g) (hc' : ∀ g : Nat → Int32, cel X g K r' k = arI X 0 n g) (hn : n < 2 ^ 31) (hsp : sp = 0) (hdp : dp = 0) (hnn : nn = nI n) (hd1 : 2 ≤ d) (hr : (st.map fun v => v.category).sum ≤ 8) (hs : setR σ K r' (up1 h' k g) = σ') (hd : decode cc pc = .ok (.invokestatic index, 3))
    (kk : T X l y cc nL ret d (pc + 3) ls st σ' Q) : T X l y cc nL ret d pc ls (.int nn :: .int dp :: .ref (adr X K r' k) :: .int sp :: .ref (adr X K r k) :: st) σ Q := by
  intro p e s m args below meth c H locs lsA hF hP hS hl
  subst hs
  subst hh
  subst hg
  subst hsp
  subst hdp
  subst hnn
  obtain ⟨q, hq0, hq⟩ := wl_get X σ hid
  obtain ⟨q', hq0', hq'⟩ := wl_get X σ hid'
  rw [hc] at hq
  rw [hc'] at hq'
  have hX := hF.2.2.2.2.2.2.2.1.1
  have hz : ((0 : Int32)).toNatClampNeg = 0 := rfl
  have hz2 : (nI n).toNatClampNeg = n := nI_clamp hn
  refine va_copyi (ty := .int) hF.1 hF.2.1 (hF.2.2.1.trans hl.1.symm) hF.2.2.2.2.2.1 (hF.2.2.2.2.2.2.1 _ hw) (hF.2.2.2.2.2.2.1 _ hn1) (hF.2.2.2.2.2.2.1 _ hst) (hF.2.2.2.2.2.2.1 _ hini) hF.2.2.2.2.2.2.2.1.2.1 hP (wl_D hX σ) hS q q' 0 0 hq hq' rfl rfl rfl (by decide) (by decide) (nI_pos hn) (by rw [hz, hz2]; omega) (by rw [hz, hz2]; omega) (fun _ _ => rfl) (by show 1 ≤ d; omega) (by
      have hw : nativeFrameWords "java/lang/System" "arraycopy" 5 ≤ 40 := by decide +kernel
      show _ ≤ 36 * d
      omega) hd (fun H1 locs1 hP1 _ hS1 => ?_)
  refine kk p e s m args below meth c H1 locs1 lsA hF ?_ hS1 hl
  rw [hz, hz2] at hP1
  have hP2 : va_P X.1 vwCl ((wl X σ).set q' (adr X K r' k, arI X 0 n (σ K r k))) H1 := by
    intro j z hj
    by_cases hjq : q' = j
    · subst hjq
      have hlt : q' < (wl X σ).length := (List.getElem?_eq_some_iff.mp hq').1
      rw [List.getElem?_set_self hlt] at hj
      cases hj
      have h1 := hP1 q' _ (List.getElem?_set_self hlt)
      have e1 : vp_cell (X.2.1 0) (n, .inl (va_cpy (σ K r k) (σ K r' k) 0 0 n)) = vp_cell (X.2.1 0) (n, .inl (σ K r k)) := by
        rw [vp_cell_i, vp_cell_i]
        unfold arrV
        congr 2
        funext j
        have hj := j.isLt
        simp [va_cpy]
      show H1[adr X K r' k]? = some (vp_cell _ _)
      rw [← e1]
      exact h1
    · rw [List.getElem?_set_ne hjq] at hj
      exact hP1 j z (by rw [List.getElem?_set_ne hjq]; exact hj)
  rw [wl_set (σ' := setR σ K r' (up1 (σ K r') k (σ K r k))) hX hq0' ?_ ?_] at hP2
  · exact hP2
  · intro K' r'' k' hn
    unfold setR
    split
    · rename_i h
      rw [h.1, h.2, up1_ne (fun e => hn ⟨h.1, h.2, e⟩)]
    · rfl
  · rw [setR_self, up1_same]
    exact hc' _
end ROWS
