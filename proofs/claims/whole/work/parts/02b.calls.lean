/-! ===== calls, over contracts ===== -/
section CALLS
variable {X : Cx} {l : Launch} {y : MethodName} {cc : ByteArray} {nL : Nat} {ret : Option FieldType} {d pc : Nat} {ls : List (Option Value)} {st rest : List Value} {σ u : Hp} {Q Qy : Option Value → Hp → Prop}
theorem T_call {a : Array Value} (hr : ∀ (p : Program) (e : Env) (s : State) (m : MethodId) (args : Array Value) (below : List Frame) (meth : Method) (c : Code) (H : Heap) (locs : List Loc) (lsA : Array Slot), Fx X p s m args meth c y cc nL ret → va_P X.1 vwCl (wl X σ) H → va_S (Ax X) s.heap H locs → lv_has lsA nL (kn 0 ls) → va_Run p l e (rmD d) s m args below meth c H locs 0 0 0 0 (F0 m pc lsA st) rest (QT X Qy a) (Ax X))
    (kk : ∀ r u, Qy r u → T X l y cc nL ret d (pc + 3) ls (r.toList ++ rest) u Q) : T X l y cc nL ret d pc ls st σ Q := by
  intro p e s m args below meth c H locs lsA hF hP hS hl
  intro T0 hT X0
  obtain ⟨v, st₀, t, T', L, h0, X', hL, e1, e2, ⟨⟨r, u, hv, hq, hp⟩, hz, hk⟩, stp⟩ := hr p e s m args below meth c H locs lsA hF hP hS hl T0 hT X0
  cases hv
  rw [h0] at hz hk
  obtain ⟨t2, a1, b1⟩ := kk v u hq p e s m args below meth c T'.heap (locs ++ L) lsA hF (by rw [e1]; exact hp) ⟨Nat.le_trans hS.1 (by rw [e1]; exact hz), fun q h1 h2 => by rw [e1, hk q (Nat.lt_of_lt_of_le h1 hS.1) h2]; exact hS.2.1 q h1 h2, fun q hq => by
      rcases List.mem_append.mp hq with h | h
      · exact hS.2.2 q h
      · exact hL q h⟩ hl T' rfl X'
  exact ⟨t2, stp t2 a1, b1⟩
/-- a receiver's class -/
def Rc (X : Cx) (σ : Hp) (b : Nat) (C : String) : Prop := ∀ (s : State) (H : Heap) (locs : List Loc), KX X s → SX X s → va_P X.1 vwCl (wl X σ) H → va_S (Ax X) s.heap H locs → ∃ cellB : Cell, H[b]? = some cellB ∧ cellB.vm.isStatics = false ∧ s.vm.findClass C = some cellB.cls
theorem Rc_of {K r k ci : Nat} {q : vw_C} {fs : List Value} (hid : (K, r, k) ∈ ids X) (hc : cel X (σ K r k) K r k = .inr (ci, fs)) (hq : vwCl[ci]? = some q) : Rc X σ (adr X K r k) q.1 := by
  intro s H locs hK _ hP _
  obtain ⟨i, -, hi⟩ := wl_get X σ hid
  rw [hc] at hi
  exact va_recv hK.2.1 hP hq hi
theorem Rc_str {i : Nat} (hi : i < 2) : Rc X σ (X.2.2.2.2.1 i) "java/lang/String" := by
  intro s H locs hK hSX _ hS
  exact vk_recv hSX.2.1 hi hS
theorem T_callV {C : String} {index d2 nL2 b : Nat} {y2 : MethodName} {cc2 : ByteArray} {ret2 : Option FieldType} {As : List Value} (hrec : Rc X σ b C) (hC : Con X l y2 cc2 nL2 ret2 d2 (.ref b :: As) σ Qy) (h1 : Cond.methodLink y.cls index y2 ∈ tb) (h2 : Cond.instanceMethod y2 ∈ tb) (h3 : Cond.selects C y2 y2 ∈ tb) (h4 : Cond.initialized C ∈ tb) (h5 : Cond.code y2 cc2 nL2 ret2 ∈ tb) (hyC : y2.cls = C)
    (hde : y2.cls ≠ "java/lang/invoke/MethodHandle" ∧ y2.cls ≠ "java/lang/invoke/VarHandle" ∧ (parseMethodDescriptor y2.desc).map (fun d => d.parameters.length) = some As.length) (hd2 : d2 + 1 ≤ d) (hn2 : nL2 ≤ 17) (hst : st = As.reverse ++ .ref b :: rest) (hW : (rest.map fun v => v.category).sum ≤ 8) (hdg : decode cc pc = .ok (.invokevirtual index, 3))
    (kk : ∀ r u, Qy r u → T X l y cc nL ret d (pc + 3) ls (r.toList ++ rest) u Q) : T X l y cc nL ret d pc ls st σ Q := by
  refine T_call (rest := rest) (a := (Value.ref b :: As).toArray) (fun p e s m args below meth c H locs lsA hF hP hS hl => ?_) kk
  have hts := hF.2.2.2.2.2.2.1
  have hG : GoodIn tb (wsV y.cls index C y2 (Cond.code y2 cc2 nL2 ret2 :: tb)) := by
    intro w hw
    refine tb_good w ?_
    simp only [wsV, List.mem_append, List.mem_cons, List.not_mem_nil, or_false] at hw
    rcases hw with (rfl | rfl | rfl | rfl) | rfl | hw
    · exact h1
    · exact h2
    · exact h3
    · exact h4
    · exact h5
    · exact hw
  exact va_runV (nL := nL) (Ts := tb) (own := y.cls) (As := As) (rest := rest) ⟨hF.1, hF.2.1, hF.2.2.1, hF.2.2.2.2.2.1, hts⟩ hC (cwV As.length hts hG rfl rfl rfl ⟨hyC, hde⟩ ⟨hd2, by show 8 + (nL2 + 11) + 36 * d2 ≤ 36 * d; omega⟩)
    ⟨con_blind, hrec s H locs hF.2.2.2.2.2.2.2.1 hF.2.2.2.2.2.2.2.2 hP hS, fun U hU hW1 => ⟨rfl, by rw [hU]; exact hP, KX.warm hW1 hF.2.2.2.2.2.2.2.1, SX.moved (locs := locs) hW1.alike (by rw [hU]; exact hS) hF.2.2.2.2.2.2.2.2⟩⟩ rfl rfl hl.1 hst (lv_room hW) hdg ⟨Nat.le_refl _, Nat.le_refl _⟩
theorem T_vi {C : String} {index d2 nL2 b : Nat} {y2 : MethodName} {cc2 : ByteArray} {ret2 : Option FieldType} {As : List Value} {x : Int32} (hrec : Rc X σ b C) (hC : Con X l y2 cc2 nL2 ret2 d2 (.ref b :: As) σ (Ex (some (.int x)) u)) (h1 : Cond.methodLink y.cls index y2 ∈ tb) (h2 : Cond.instanceMethod y2 ∈ tb) (h3 : Cond.selects C y2 y2 ∈ tb) (h4 : Cond.initialized C ∈ tb) (h5 : Cond.code y2 cc2 nL2 ret2 ∈ tb) (hyC : y2.cls = C)
    (hde : y2.cls ≠ "java/lang/invoke/MethodHandle" ∧ y2.cls ≠ "java/lang/invoke/VarHandle" ∧ (parseMethodDescriptor y2.desc).map (fun d => d.parameters.length) = some As.length) (hd2 : d2 + 1 ≤ d) (hn2 : nL2 ≤ 17) (hst : st = As.reverse ++ .ref b :: rest) (hW : (rest.map fun v => v.category).sum ≤ 8) (hdg : decode cc pc = .ok (.invokevirtual index, 3))
    (k : T X l y cc nL ret d (pc + 3) ls (.int x :: rest) u Q) : T X l y cc nL ret d pc ls st σ Q :=
  T_callV hrec hC h1 h2 h3 h4 h5 hyC hde hd2 hn2 hst hW hdg (by rintro _ _ ⟨rfl, rfl⟩; exact k)
theorem T_vv {C : String} {index d2 nL2 b : Nat} {y2 : MethodName} {cc2 : ByteArray} {ret2 : Option FieldType} {As : List Value} (hrec : Rc X σ b C) (hC : Con X l y2 cc2 nL2 ret2 d2 (.ref b :: As) σ (Ex none u)) (h1 : Cond.methodLink y.cls index y2 ∈ tb) (h2 : Cond.instanceMethod y2 ∈ tb) (h3 : Cond.selects C y2 y2 ∈ tb) (h4 : Cond.initialized C ∈ tb) (h5 : Cond.code y2 cc2 nL2 ret2 ∈ tb) (hyC : y2.cls = C)
    (hde : y2.cls ≠ "java/lang/invoke/MethodHandle" ∧ y2.cls ≠ "java/lang/invoke/VarHandle" ∧ (parseMethodDescriptor y2.desc).map (fun d => d.parameters.length) = some As.length) (hd2 : d2 + 1 ≤ d) (hn2 : nL2 ≤ 17) (hst : st = As.reverse ++ .ref b :: rest) (hW : (rest.map fun v => v.category).sum ≤ 8) (hdg : decode cc pc = .ok (.invokevirtual index, 3))
    (k : T X l y cc nL ret d (pc + 3) ls rest u Q) : T X l y cc nL ret d pc ls st σ Q :=
  T_callV hrec hC h1 h2 h3 h4 h5 hyC hde hd2 hn2 hst hW hdg (by rintro _ _ ⟨rfl, rfl⟩; exact k)
theorem T_callS {index d2 nL2 : Nat} {y2 : MethodName} {cc2 : ByteArray} {ret2 : Option FieldType} {As : List Value} (hC : Con X l y2 cc2 nL2 ret2 d2 As σ Qy) (h1 : Cond.methodLink y.cls index y2 ∈ tb) (h2 : Cond.static y2 ∈ tb) (h4 : Cond.initialized y2.cls ∈ tb) (h5 : Cond.code y2 cc2 nL2 ret2 ∈ tb)
    (hde : y2.cls ≠ "java/lang/invoke/MethodHandle" ∧ y2.cls ≠ "java/lang/invoke/VarHandle" ∧ (parseMethodDescriptor y2.desc).map (fun d => d.parameters.length) = some As.length) (hd2 : d2 + 1 ≤ d) (hn2 : nL2 ≤ 17) (hst : st = As.reverse ++ rest) (hW : (rest.map fun v => v.category).sum ≤ 8) (hdg : decode cc pc = .ok (.invokestatic index, 3))
    (kk : ∀ r u, Qy r u → T X l y cc nL ret d (pc + 3) ls (r.toList ++ rest) u Q) : T X l y cc nL ret d pc ls st σ Q := by
  refine T_call (rest := rest) (a := As.toArray) (fun p e s m args below meth c H locs lsA hF hP hS hl => ?_) kk
  have hts := hF.2.2.2.2.2.2.1
  have hG : GoodIn tb (Cond.code y2 cc2 nL2 ret2 :: tb) := by
    intro w hw
    refine tb_good w ?_
    rcases List.mem_cons.mp hw with rfl | hw
    · exact h5
    · exact hw
  exact va_runS (nL := nL) (Ts := tb) (own := y.cls) (As := As) (rest := rest) ⟨hF.1, hF.2.1, hF.2.2.1, hF.2.2.2.2.2.1, hts⟩ hC ⟨callB_of As.length hts hG rfl rfl rfl (hts _ h4) (hts _ h1) hde ⟨hd2, by show 8 + (nL2 + 11) + 36 * d2 ≤ 36 * d; omega⟩, hts _ h2⟩
    ⟨con_blind, fun U hU hW1 => ⟨rfl, by rw [hU]; exact hP, KX.warm hW1 hF.2.2.2.2.2.2.2.1, SX.moved (locs := locs) hW1.alike (by rw [hU]; exact hS) hF.2.2.2.2.2.2.2.2⟩⟩ rfl rfl hl.1 hst (lv_room hW) hdg ⟨Nat.le_refl _, Nat.le_refl _⟩
theorem T_si {index d2 nL2 : Nat} {y2 : MethodName} {cc2 : ByteArray} {ret2 : Option FieldType} {As : List Value} {x : Int32} (hC : Con X l y2 cc2 nL2 ret2 d2 As σ (Ex (some (.int x)) u)) (h1 : Cond.methodLink y.cls index y2 ∈ tb) (h2 : Cond.static y2 ∈ tb) (h4 : Cond.initialized y2.cls ∈ tb) (h5 : Cond.code y2 cc2 nL2 ret2 ∈ tb)
    (hde : y2.cls ≠ "java/lang/invoke/MethodHandle" ∧ y2.cls ≠ "java/lang/invoke/VarHandle" ∧ (parseMethodDescriptor y2.desc).map (fun d => d.parameters.length) = some As.length) (hd2 : d2 + 1 ≤ d) (hn2 : nL2 ≤ 17) (hst : st = As.reverse ++ rest) (hW : (rest.map fun v => v.category).sum ≤ 8) (hdg : decode cc pc = .ok (.invokestatic index, 3))
    (k : T X l y cc nL ret d (pc + 3) ls (.int x :: rest) u Q) : T X l y cc nL ret d pc ls st σ Q :=
  T_callS hC h1 h2 h4 h5 hde hd2 hn2 hst hW hdg (by rintro _ _ ⟨rfl, rfl⟩; exact k)
theorem T_sv {index d2 nL2 : Nat} {y2 : MethodName} {cc2 : ByteArray} {ret2 : Option FieldType} {As : List Value} (hC : Con X l y2 cc2 nL2 ret2 d2 As σ (Ex none u)) (h1 : Cond.methodLink y.cls index y2 ∈ tb) (h2 : Cond.static y2 ∈ tb) (h4 : Cond.initialized y2.cls ∈ tb) (h5 : Cond.code y2 cc2 nL2 ret2 ∈ tb)
    (hde : y2.cls ≠ "java/lang/invoke/MethodHandle" ∧ y2.cls ≠ "java/lang/invoke/VarHandle" ∧ (parseMethodDescriptor y2.desc).map (fun d => d.parameters.length) = some As.length) (hd2 : d2 + 1 ≤ d) (hn2 : nL2 ≤ 17) (hst : st = As.reverse ++ rest) (hW : (rest.map fun v => v.category).sum ≤ 8) (hdg : decode cc pc = .ok (.invokestatic index, 3))
    (k : T X l y cc nL ret d (pc + 3) ls rest u Q) : T X l y cc nL ret d pc ls st σ Q :=
  T_callS hC h1 h2 h4 h5 hde hd2 hn2 hst hW hdg (by rintro _ _ ⟨rfl, rfl⟩; exact k)
/-- a private static method of the nest's host -/
theorem T_callSN {index d2 nL2 : Nat} {y2 : MethodName} {cc2 : ByteArray} {ret2 : Option FieldType} {As : List Value} {x : Int32} (hC : Con X l y2 cc2 nL2 ret2 d2 As σ (Ex (some (.int x)) u)) (h1 : ∀ s, KX X s → va_Nw (.methodLinkNest y.cls index y2 RX3) s) (h2 : Cond.static y2 ∈ tb) (h4 : Cond.initialized y2.cls ∈ tb) (h5 : Cond.code y2 cc2 nL2 ret2 ∈ tb)
    (hde : y2.cls ≠ "java/lang/invoke/MethodHandle" ∧ y2.cls ≠ "java/lang/invoke/VarHandle" ∧ (parseMethodDescriptor y2.desc).map (fun d => d.parameters.length) = some As.length) (hd2 : d2 + 1 ≤ d) (hn2 : nL2 ≤ 17) (hst : st = As.reverse ++ rest) (hW : (rest.map fun v => v.category).sum ≤ 8) (hdg : decode cc pc = .ok (.invokestatic index, 3))
    (k : T X l y cc nL ret d (pc + 3) ls (.int x :: rest) u Q) : T X l y cc nL ret d pc ls st σ Q := by
  refine T_call (rest := rest) (a := As.toArray) (Qy := Ex (some (.int x)) u) (fun p e s m args below meth c H locs lsA hF hP hS hl => ?_) (by rintro _ _ ⟨rfl, rfl⟩; exact k)
  have hts := hF.2.2.2.2.2.2.1
  have hG : GoodIn tb (Cond.code y2 cc2 nL2 ret2 :: tb) := by
    intro w hw
    refine tb_good w ?_
    rcases List.mem_cons.mp hw with rfl | hw
    · exact h5
    · exact hw
  exact va_runSN (nL := nL) (Ts := tb) (own := y.cls) (As := As) (rest := rest) ⟨hF.1, hF.2.1, hF.2.2.1, hF.2.2.2.2.2.1, hts⟩ hC ⟨va_cnB As.length hts hG rfl rfl rfl (h1 s hF.2.2.2.2.2.2.2.1) (hts _ h4) hde ⟨hd2, by show 8 + (nL2 + 11) + 36 * d2 ≤ 36 * d; omega⟩, hts _ h2, trivial⟩
    ⟨con_blind, fun U hU hW1 => ⟨rfl, by rw [hU]; exact hP, KX.warm hW1 hF.2.2.2.2.2.2.2.1, SX.moved (locs := locs) hW1.alike (by rw [hU]; exact hS) hF.2.2.2.2.2.2.2.2⟩⟩ rfl rfl hl.1 hst (lv_room hW) hdg ⟨Nat.le_refl _, Nat.le_refl _⟩
end CALLS
/-! ===== loops: n steps of f ===== -/
def itN {α : Type} (f : Nat → α → α) (a : α) : Nat → α
  | 0 => a
  | n + 1 => f n (itN f a n)
/-- a counting loop: P k x = what stands at its head with the counter k and the rest x -/
theorem loopN {α : Type} (P : Nat → α → Prop) (f : Nat → α → α) (a : α) (N : Nat) (hs : ∀ k, k < N → P (k + 1) (f k (itN f a k)) → P k (itN f a k)) (hx : P N (itN f a N)) : P 0 a := by
  have h : ∀ n k, k + n = N → P k (itN f a k) := by
    intro n
    induction n with
    | zero => intro k hk; have : k = N := by omega
              subst this; exact hx
    | succ n ih => intro k hk; exact hs k (by omega) (ih (k + 1) (by omega))
  exact h N 0 (by omega)
