/-! ===== calls of contracts, new objects: over any room ===== -/
/-- the statics and String constants, apart from an area -/
def SA (X : Cx) (A : Nat → Prop) (U : State) (H : Heap) : Prop := va_Z "java/lang/String" "COMPACT_STRINGS" "Z" (.int 1) A U H ∧ vk_S 2 [6, 6] [[99, 111, 112, 105, 101, 115], [98, 111, 117, 110, 100, 115]] X.2.2.2.2.1 X.2.2.2.2.2 A U H ∧ va_Zq "jdk/internal/util/Preconditions" "SIOOBE_FORMATTER" "Ljava/util/function/BiFunction;" A U H
theorem SA.nar {X : Cx} {A B : Nat → Prop} {U : State} {H : Heap} (h : SA X A U H) (hs : ∀ q, B q → A q) : SA X B U H := ⟨h.1.narrow hs, h.2.1.narrow hs, h.2.2.narrow hs⟩
theorem SA.kept {X : Cx} {A : Nat → Prop} {U : State} {H H1 : Heap} (h : SA X A U H) (hq : ∀ a : Nat, a < H.size → ¬ A a → H1[a]? = H[a]?) : SA X A U H1 := ⟨h.1.kept hq, h.2.1.kept hq, h.2.2.kept hq⟩
theorem SA.moved {X : Cx} {A : Nat → Prop} {u U : State} {H : Heap} (hvm : u.vm.Alike U.vm) (h : SA X A u H) : SA X A U H := ⟨h.1.moved hvm, h.2.1.moved hvm, h.2.2.moved hvm⟩
theorem SA.at {X : Cx} {A B : Nat → Prop} {s U : State} {H : Heap} {locs : List Loc} (h : SA X A s s.heap) (hS : va_S A s.heap H locs) (hU : U.heap = H) (hW : s.WarmedH U.vm) (hs : ∀ q, B q → A q) : SA X B U U.heap := by
  rw [hU]
  exact ((h.kept hS.2.1).moved hW.alike).nar hs
/-- another context over the same classes and constants -/
theorem KX.ext {X Y : Cx} {U : State} (h : KX X U) (e1 : Y.1 = X.1) (e2 : Y.2.1 = X.2.1) (e3 : Y.2.2.2.2 = X.2.2.2.2) (hD : XD Y) (hi : ∀ i ∈ ids Y, i.2.2 < ncel i.1) : KX Y U := by
  obtain ⟨-, h2, h3, h4, h5, h6, h7, -⟩ := h
  refine ⟨hD, ?_, h3, h4, ?_, ?_, h7, hi⟩
  · unfold tyX at *
    rw [e1, e2]
    exact h2
  · rw [e3]; exact h5
  · rw [e3]; exact h6
theorem XD_of {X : Cx} {σ : Hp} {A : Nat → Prop} (h : va_D A (wl X σ)) : XD X := by
  intro i j p q hp hq e
  exact h.1 i j _ _ (by rw [wl, List.getElem?_map, hp]; rfl) (by rw [wl, List.getElem?_map, hq]; rfl) e
theorem Ax_of {X : Cx} {σ : Hp} {A : Nat → Prop} (h : va_D A (wl X σ)) : ∀ q, Ax X q → A q := by
  rintro q ⟨i, hi, rfl⟩
  obtain ⟨k, hk⟩ := List.getElem?_of_mem hi
  exact h.2 k _ (by rw [wl, List.getElem?_map, hk]; rfl)
section RULES
variable {p : Program} {l : Launch} {e : Env} {R : Room} {s : State} {m : MethodId} {args : Array Value} {below : List Frame} {meth : Method} {c : Code} {H : Heap} {locs : List Loc} {cells slots : Nat} {Q : State → Prop} {ls : Array Slot} {A0 : Nat → Prop} {X : Cx} {cc : ByteArray} {nL : Nat} {own : String}
theorem run_k {mc ms pc : Nat} {st rest : List Value} {Qa : State → Outcome → State → Prop} {free : Addr → Prop} (hr : va_Run p l e R s m args below meth c H locs cells slots mc ms (F0 m pc ls st) rest Qa free) (hS : va_S A0 s.heap H locs) (hf : ∀ q, free q → A0 q)
    (hQ : ∀ st0 v t, st0.heap = H → Qa st0 (.returned v) t → H.size ≤ t.heap.size ∧ ∀ q, q < H.size → ¬ A0 q → t.heap[q]? = H[q]?)
    (kk : ∀ v st0 t locs', st0.heap = H → Qa st0 (.returned v) t → va_S A0 s.heap t.heap locs' → W p l e R s m args below meth c t.heap locs' (cells + mc) (slots + ms) Q (F0 m (pc + 3) ls (v.toList ++ rest))) : W p l e R s m args below meth c H locs cells slots Q (F0 m pc ls st) := by
  intro T0 hT X0
  obtain ⟨v, st₀, t, T', L, h0, X', hL, e1, e2, hq, stp⟩ := hr T0 hT X0
  obtain ⟨hz, hk⟩ := hQ st₀ v t h0 hq
  obtain ⟨t2, a1, b1⟩ := kk v st₀ t (locs ++ L) h0 hq ⟨Nat.le_trans hS.1 hz, fun q h1 h2 => by rw [hk q (Nat.lt_of_lt_of_le h1 hS.1) h2]; exact hS.2.1 q h1 h2, fun q hq => by
      rcases List.mem_append.mp hq with h | h
      · exact hS.2.2 q h
      · exact hf _ (hL q h)⟩ T' e1 X'
  exact ⟨t2, stp t2 a1, b1⟩
theorem W_conV {σ : Hp} {C : String} {index d2 nL2 b pc : Nat} {y2 : MethodName} {cc2 : ByteArray} {ret2 : Option FieldType} {As st rest : List Value} {Qy : Option Value → Hp → Prop} (hx : p.tables.exec = Jvm.exec) (hb : c.code = cc) (hml : c.maxLocals = nL) (hown : s.vm.findClass own = some m.cls) (hts : ∀ w ∈ tb, w.before args s = true) (hK : KX X s) (hSA : SA X A0 s s.heap) (hsub : ∀ q, Ax X q → A0 q) (hP : va_P X.1 vwCl (wl X σ) H) (hS : va_S A0 s.heap H locs) (hls : ls.size = nL)
    (hrec : ∃ cellB : Cell, H[b]? = some cellB ∧ cellB.vm.isStatics = false ∧ s.vm.findClass C = some cellB.cls) (hC : Con X l y2 cc2 nL2 ret2 d2 (.ref b :: As) σ Qy) (h1 : Cond.methodLink own index y2 ∈ tb) (h2 : Cond.instanceMethod y2 ∈ tb) (h3 : Cond.selects C y2 y2 ∈ tb) (h4 : Cond.initialized C ∈ tb) (h5 : Cond.code y2 cc2 nL2 ret2 ∈ tb) (hyC : y2.cls = C)
    (hde : y2.cls ≠ "java/lang/invoke/MethodHandle" ∧ y2.cls ≠ "java/lang/invoke/VarHandle" ∧ (parseMethodDescriptor y2.desc).map (fun d => d.parameters.length) = some As.length) (hR : d2 + 1 ≤ R.frames ∧ 8 + (nL2 + 11) + 36 * d2 ≤ R.locals) (hcs : cells ≤ R.cells ∧ slots ≤ R.slots) (hst : st = As.reverse ++ .ref b :: rest) (hW : (rest.map fun v => v.category).sum ≤ 8) (hdg : decode cc pc = .ok (.invokevirtual index, 3))
    (kk : ∀ r u H' locs', Qy r u → va_P X.1 vwCl (wl X u) H' → H.size ≤ H'.size → (∀ q, q < H.size → ¬ Ax X q → H'[q]? = H[q]?) → va_S A0 s.heap H' locs' → W p l e R s m args below meth c H' locs' cells slots Q (F0 m (pc + 3) ls (r.toList ++ rest))) : W p l e R s m args below meth c H locs cells slots Q (F0 m pc ls st) := by
  have hG : GoodIn tb (wsV own index C y2 (Cond.code y2 cc2 nL2 ret2 :: tb)) := by
    intro w hw
    refine tb_good w ?_
    simp only [wsV, List.mem_append, List.mem_cons, List.not_mem_nil, or_false] at hw
    rcases hw with (rfl | rfl | rfl | rfl) | rfl | hw
    · exact h1
    · exact h2
    · exact h3
    · exact h4
    · exact h5
    · exact hw
  refine run_k (A0 := A0) (va_runV (nL := nL) (Ts := tb) (own := own) (As := As) (rest := rest) ⟨hx, hb, hml, hown, hts⟩ hC (cwV As.length hts hG rfl rfl rfl ⟨hyC, hde⟩ ⟨hR.1, hR.2⟩) ⟨con_blind, hrec, fun U hU hW1 => ⟨rfl, by rw [hU]; exact hP, KX.warm hW1 hK, hSA.at hS hU hW1 hsub⟩⟩ rfl rfl hls hst (lv_room hW) hdg ⟨hcs.1, hcs.2⟩) hS hsub ?_ ?_
  · rintro st0 v t h0 ⟨-, hz, hk⟩
    rw [h0] at hz hk
    exact ⟨hz, fun q h1 h2 => hk q h1 (fun z => h2 (hsub q z))⟩
  · rintro v st0 t locs' h0 ⟨⟨r, u, hv, hq, hp⟩, hz, hk⟩ hS'
    cases hv
    rw [h0] at hz hk
    exact kk _ u t.heap locs' hq hp hz hk hS'
theorem W_conS {σ : Hp} {index d2 nL2 pc : Nat} {y2 : MethodName} {cc2 : ByteArray} {ret2 : Option FieldType} {As st rest : List Value} {Qy : Option Value → Hp → Prop} (hx : p.tables.exec = Jvm.exec) (hb : c.code = cc) (hml : c.maxLocals = nL) (hown : s.vm.findClass own = some m.cls) (hts : ∀ w ∈ tb, w.before args s = true) (hK : KX X s) (hSA : SA X A0 s s.heap) (hsub : ∀ q, Ax X q → A0 q) (hP : va_P X.1 vwCl (wl X σ) H) (hS : va_S A0 s.heap H locs) (hls : ls.size = nL)
    (hC : Con X l y2 cc2 nL2 ret2 d2 As σ Qy) (h1 : Cond.methodLink own index y2 ∈ tb) (h2 : Cond.static y2 ∈ tb) (h4 : Cond.initialized y2.cls ∈ tb) (h5 : Cond.code y2 cc2 nL2 ret2 ∈ tb)
    (hde : y2.cls ≠ "java/lang/invoke/MethodHandle" ∧ y2.cls ≠ "java/lang/invoke/VarHandle" ∧ (parseMethodDescriptor y2.desc).map (fun d => d.parameters.length) = some As.length) (hR : d2 + 1 ≤ R.frames ∧ 8 + (nL2 + 11) + 36 * d2 ≤ R.locals) (hcs : cells ≤ R.cells ∧ slots ≤ R.slots) (hst : st = As.reverse ++ rest) (hW : (rest.map fun v => v.category).sum ≤ 8) (hdg : decode cc pc = .ok (.invokestatic index, 3))
    (kk : ∀ r u H' locs', Qy r u → va_P X.1 vwCl (wl X u) H' → H.size ≤ H'.size → (∀ q, q < H.size → ¬ Ax X q → H'[q]? = H[q]?) → va_S A0 s.heap H' locs' → W p l e R s m args below meth c H' locs' cells slots Q (F0 m (pc + 3) ls (r.toList ++ rest))) : W p l e R s m args below meth c H locs cells slots Q (F0 m pc ls st) := by
  have hG : GoodIn tb (Cond.code y2 cc2 nL2 ret2 :: tb) := by
    intro w hw
    refine tb_good w ?_
    rcases List.mem_cons.mp hw with rfl | hw
    · exact h5
    · exact hw
  refine run_k (A0 := A0) (va_runS (nL := nL) (Ts := tb) (own := own) (As := As) (rest := rest) ⟨hx, hb, hml, hown, hts⟩ hC ⟨callB_of As.length hts hG rfl rfl rfl (hts _ h4) (hts _ h1) hde ⟨hR.1, hR.2⟩, hts _ h2⟩ ⟨con_blind, fun U hU hW1 => ⟨rfl, by rw [hU]; exact hP, KX.warm hW1 hK, hSA.at hS hU hW1 hsub⟩⟩ rfl rfl hls hst (lv_room hW) hdg ⟨hcs.1, hcs.2⟩) hS hsub ?_ ?_
  · rintro st0 v t h0 ⟨-, hz, hk⟩
    rw [h0] at hz hk
    exact ⟨hz, fun q h1 h2 => hk q h1 (fun z => h2 (hsub q z))⟩
  · rintro v st0 t locs' h0 ⟨⟨r, u, hv, hq, hp⟩, hz, hk⟩ hS'
    cases hv
    rw [h0] at hz hk
    exact kk _ u t.heap locs' hq hp hz hk hS'
end RULES
/-! ===== constructors' contracts ===== -/
def A1 (h0 sz : Nat) : Nat → Prop := fun q => q = h0 ∨ sz ≤ q
def BX (X : Cx) (U : State) : Prop := KX X U ∧ va_AO "StaleBounds$Ledger" U
theorem BX.warm {X : Cx} {s U : State} (hW : s.WarmedH U.vm) (h : BX X s) : BX X U := ⟨KX.warm hW h.1, h.2.moved hW.alike⟩
def rmC (d mc ms : Nat) : Room := { frames := d, cells := mc, slots := ms, locals := 36 * d }
/-- what a constructor finds -/
def PN (X : Cx) (h0 sz ci : Nat) (fs : List Value) : State → Prop := fun U => U.heap.size = sz ∧ va_P X.1 vwCl [(h0, .inr (ci, fs))] U.heap ∧ BX X U ∧ SA X (A1 h0 sz) U U.heap
/-- what it leaves: the cells that belong to the new object -/
def QN (X : Cx) (h0 sz : Nat) (Ps : Nat → va_W → Prop) : Array Value → State → Outcome → State → Prop := fun _ st o t => (o = .returned none ∧ ∃ ws, Ps h0 ws ∧ va_P X.1 vwCl ws t.heap ∧ va_D (A1 h0 sz) ws) ∧ va_F (A1 h0 sz) st t
def NewC (l : Launch) (X : Cx) (y : MethodName) (cc : ByteArray) (nL d ci : Nat) (fs : List Value) (mc ms : Nat) (Ps : Nat → va_W → Prop) : Prop := ∀ h0 sz, Met l y (Cond.code y cc nL none :: tb) (rmC d mc ms) (va_Pc [.ref h0] (PN X h0 sz ci fs)) (QN X h0 sz Ps) mc ms (A1 h0 sz)
theorem PN_blind {X : Cx} {As : List Value} {h0 sz ci : Nat} {fs : List Value} : FrameBlind (va_Pc As (PN X h0 sz ci fs)) := by
  intro a U g mk h
  obtain ⟨h1, h2, h3, ⟨h4, h5⟩, h6⟩ := h
  exact ⟨h1, h2, h3, ⟨h4.same rfl, h5.moved (U := U.calling g mk a) (Vm.Alike.refl U.vm)⟩, h6.moved (U := U.calling g mk a) (Vm.Alike.refl U.vm)⟩
/-- what stands all through a constructor -/
def CF (X : Cx) (p : Program) (s : State) (m : MethodId) (h0 : Nat) (meth : Method) (c : Code) (own : String) (cc : ByteArray) (nL : Nat) : Prop := p.tables.exec = Jvm.exec ∧ c.code = cc ∧ c.maxLocals = nL ∧ meth.sig.returnType = none ∧ meth.locks = false ∧ s.vm.findClass own = some m.cls ∧ meth.name = "<init>" ∧ (∀ w ∈ tb, w.before #[Value.ref h0] s = true) ∧ BX X s ∧ SA X (A1 h0 s.heap.size) s s.heap
theorem NewC_of {l : Launch} {X : Cx} {y : MethodName} {cc : ByteArray} {nL d ci : Nat} {fs : List Value} {mc ms : Nat} {Ps : Nat → va_W → Prop} {idx : Nat} (hy : plainName y.cls = true) (hny : y.name = "<init>") (hnL : 1 ≤ nL) (hd1 : 1 ≤ d) (d0 : decode cc 0 = .ok (.aload_n 0, 1)) (d1 : decode cc 1 = .ok (.invokespecial idx, 3)) (hlk : Cond.methodLink y.cls idx objectInit ∈ tb)
    (h : ∀ (p : Program) (e : Env) (s : State) (m : MethodId) (below : List Frame) (meth : Method) (c : Code) (h0 : Nat) (ls : Array Slot), CF X p s m h0 meth c y.cls cc nL → lv_has ls nL [(0, .ref h0)] → va_P X.1 vwCl [(h0, .inr (ci, fs))] s.heap → va_D (A1 h0 s.heap.size) [(h0, .inr (ci, fs))] → W p l e (rmC d mc ms) s m #[Value.ref h0] below meth c s.heap [] 0 0 (MQ below (QN X h0 s.heap.size Ps) #[Value.ref h0] s mc ms (A1 h0 s.heap.size)) (F0 m 4 ls [])) : NewC l X y cc nL d ci fs mc ms Ps := by
  intro h0 sz
  refine Met.ofW (cc := cc) (maxL := nL) (ret := none) hy rfl ?_
  intro p e s m args below meth c s₁ B hml hv
  obtain ⟨rfl, rfl, hP, hB, hSA⟩ := hv
  have hts0 := atoms_spec (ws := Cond.code y cc nL none :: tb) B.pre
  have hts : ∀ w ∈ tb, w.before #[Value.ref h0] s = true := fun w hw => hts0 w (List.mem_cons_of_mem _ hw)
  have hl := lv_entry ([.ref h0]) (n := nL) hnL
  rw [lg_entry_eq]
  generalize (lg_sl ([.ref h0]) ++ List.replicate (nL - (lg_sl ([.ref h0])).length) Slot.unset).toArray = ls at hl ⊢
  have hl : lv_has ls nL [(0, .ref h0)] := hl
  have hown : s.vm.findClass y.cls = some m.cls := findClass_of_methodNamed B.named
  have hin : meth.name = "<init>" := ((name_of_methodNamed B.named B.method).1).trans hny
  have hD : va_D (A1 h0 s.heap.size) [(h0, Sum.inr (ci, fs))] := by
    refine ⟨fun i j p q hp hq _ => ?_, fun k q hk => ?_⟩
    · have h1 := (List.getElem?_eq_some_iff.mp hp).1
      have h2 := (List.getElem?_eq_some_iff.mp hq).1
      simp only [List.length_cons, List.length_nil] at h1 h2
      omega
    · have h1 := List.mem_of_getElem? hk
      rw [List.mem_singleton] at h1
      rw [h1]
      exact Or.inl rfl
  refine lv_aload_n B.exec B.bytes d0 rfl (lv_at hl 0 rfl) ?_
  refine W.objInit B.exec B.bytes hown (hts _ hlk) (hts _ im_objectInit) (hts _ co_objectInit) rfl (by rw [hml]; exact hl.1) rfl d1 hd1 (by show 2 * 0 + 0 + 12 ≤ 36 * d; omega) ?_
  exact h p e s m below meth c h0 ls ⟨B.exec, B.bytes, hml, B.returns, B.notSynchronized, hown, hin, hts, hB, hSA⟩ hl hP hD
