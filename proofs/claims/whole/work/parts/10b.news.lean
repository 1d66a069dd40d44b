section NEWS
variable {p : Program} {l : Launch} {e : Env} {R : Room} {s : State} {m : MethodId} {args : Array Value} {below : List Frame} {meth : Method} {c : Code} {H : Heap} {locs : List Loc} {cells slots : Nat} {Q : State → Prop} {ls : Array Slot} {A0 : Nat → Prop} {X : Cx} {cc : ByteArray} {nL : Nat} {own : String}
/-- behind a constructor's run: its cells beside the others -/
theorem new_k {ws : va_W} {ci mc ms pc q : Nat} {fs : List Value} {Ps : Nat → va_W → Prop} {st rest : List Value} {a : Array Value} (hr : va_Run p l e R s m args below meth c H locs cells slots mc ms (F0 m pc ls st) rest (QN X q H.size Ps a) (A1 q H.size)) (hP : va_P X.1 vwCl (ws ++ [(q, .inr (ci, fs))]) H) (hD : va_D A0 (ws ++ [(q, .inr (ci, fs))])) (hS : va_S A0 s.heap H locs) (hA : ∀ q, s.heap.size ≤ q → A0 q)
    (kk : ∀ ws' H' locs', Ps q ws' → va_P X.1 vwCl (ws ++ ws') H' → va_D A0 (ws ++ ws') → va_S A0 s.heap H' locs' → W p l e R s m args below meth c H' locs' (cells + mc) (slots + ms) Q (F0 m (pc + 3) ls rest)) : W p l e R s m args below meth c H locs cells slots Q (F0 m pc ls st) := by
  have hq : (ws ++ [(q, Sum.inr (ci, fs))])[ws.length]? = some (q, (Sum.inr (ci, fs) : va_E)) := by simp
  have hsub : ∀ z, A1 q H.size z → A0 z := by
    rintro z (rfl | hz)
    · exact hD.2 _ _ hq
    · exact hA z (Nat.le_trans hS.1 hz)
  have hin : ∀ (k : Nat) (x : Nat × va_E), ws[k]? = some x → x.1 < H.size ∧ ¬ x.1 = q := by
    intro k x hk
    have hlt : k < ws.length := (List.getElem?_eq_some_iff.mp hk).1
    have hk2 : (ws ++ [(q, (Sum.inr (ci, fs) : va_E))])[k]? = some x := by rw [List.getElem?_append_left hlt]; exact hk
    refine ⟨(hP k x hk2).lt, fun z => ?_⟩
    have := hD.1 k ws.length x _ hk2 hq z
    omega
  refine run_k (A0 := A0) hr hS hsub ?_ ?_
  · rintro st0 v t h0 ⟨-, hz, hk⟩
    rw [h0] at hz hk
    exact ⟨hz, fun z h1 h2 => hk z h1 (fun w => h2 (hsub z w))⟩
  · rintro v st0 t locs' h0 ⟨⟨hv, ws', h1, h2, h3⟩, hz, hk⟩ hS'
    cases hv
    rw [h0] at hz hk
    have hk1 : va_P X.1 vwCl ws t.heap := by
      intro k x hx
      have hlt : k < ws.length := (List.getElem?_eq_some_iff.mp hx).1
      have hx2 : (ws ++ [(q, (Sum.inr (ci, fs) : va_E))])[k]? = some x := by rw [List.getElem?_append_left hlt]; exact hx
      refine (hP k x hx2).kept (hk x.1 (hin k x hx).1 ?_)
      rintro (z | z)
      · exact (hin k x hx).2 z
      · exact absurd (hin k x hx).1 (by omega)
    have hDw : va_D A0 ws := ⟨fun i j x y hx hy => hD.1 i j x y (by rw [List.getElem?_append_left (List.getElem?_eq_some_iff.mp hx).1]; exact hx) (by rw [List.getElem?_append_left (List.getElem?_eq_some_iff.mp hy).1]; exact hy), fun k x hx => hD.2 k x (by rw [List.getElem?_append_left (List.getElem?_eq_some_iff.mp hx).1]; exact hx)⟩
    refine kk ws' t.heap locs' h1 (hk1.app h2) (hDw.app (h3.weaken (fun _ _ _ z => hsub _ z)) (fun i j x y hx hy z => ?_)) hS'
    rcases h3.2 j y hy with w | w
    · exact (hin i x hx).2 (z.trans w)
    · have := (hin i x hx).1
      rw [z] at this
      omega
/-- new, dup, the constructor -/
theorem W_newC {ws : va_W} {C : String} {Tt : u_T} {N ci i1 i2 d2 nL2 mc ms pc : Nat} {y2 : MethodName} {cc2 : ByteArray} {fs rest : List Value} {Ps : Nat → va_W → Prop} (hN : NewC l X y2 cc2 nL2 d2 ci fs mc ms Ps) (hx : p.tables.exec = Jvm.exec) (hb : c.code = cc) (hml : c.maxLocals = nL) (hown : s.vm.findClass own = some m.cls) (hts : ∀ w ∈ tb, w.before args s = true) (hB : BX X s) (hSA : SA X A0 s s.heap) (hP : va_P X.1 vwCl ws H) (hD : va_D A0 ws) (hS : va_S A0 s.heap H locs) (hA : ∀ q, s.heap.size ≤ q → A0 q) (hls : ls.size = nL)
    (hin : ∀ w ∈ u_ws C Tt N, w ∈ tb) (ty : Nat → FieldType) (hty : ∀ k, k < N → parseFieldDescriptor (Tt k).2.2.1 = some (ty k)) (hcl : Cond.classLink own i1 C ∈ tb) (hinst : Cond.instantiable C N ∈ tb) (hini : Cond.initialized C ∈ tb) (hc : vwCl[ci]? = some (C, Tt, N)) (hfs : ∀ j, j < N → defaultValue (ty j) = vp_V fs j)
    (h1 : Cond.methodLink own i2 y2 ∈ tb) (h2 : Cond.instanceMethod y2 ∈ tb) (h5 : Cond.code y2 cc2 nL2 none ∈ tb) (hyC : y2.cls = C) (hyn : y2.name = "<init>") (hde : y2.cls ≠ "java/lang/invoke/MethodHandle" ∧ y2.cls ≠ "java/lang/invoke/VarHandle" ∧ (parseMethodDescriptor y2.desc).map (fun d => d.parameters.length) = some 0)
    (hR : d2 + 1 ≤ R.frames ∧ 8 + (nL2 + 11) + 36 * d2 ≤ R.locals) (hcs : cells + 1 + mc ≤ R.cells ∧ slots + N + ms ≤ R.slots) (hW : (rest.map fun v => v.category).sum ≤ 7) (hd1 : decode cc pc = .ok (.new i1, 3)) (hd2 : decode cc (pc + 3) = .ok (.dup, 1)) (hd3 : decode cc (pc + 3 + 1) = .ok (.invokespecial i2, 3))
    (kk : ∀ q ws' H' locs', Ps q ws' → va_P X.1 vwCl (ws ++ ws') H' → va_D A0 (ws ++ ws') → va_S A0 s.heap H' locs' → W p l e R s m args below meth c H' locs' (cells + 1 + mc) (slots + N + ms) Q (F0 m (pc + 3 + 1 + 3) ls (.ref q :: rest))) : W p l e R s m args below meth c H locs cells slots Q (F0 m pc ls rest) := by
  refine va_new (ci := ci) (fs := fs) (C := C) (T := Tt) (N := N) hx hb hts hin ty hty hown (hts _ hcl) (hts _ hinst) (hts _ hini) hB.1.2.1 hP hD hS hA hc hfs (by omega) (by omega) hd1 (fun q H1 hP1 hD1 hS1 => ?_)
  refine lv_dup hx hb hd2 rfl ?_
  have hG : GoodIn tb (Cond.code y2 cc2 nL2 none :: tb) := by
    intro w hw
    refine tb_good w ?_
    rcases List.mem_cons.mp hw with rfl | hw
    · exact h5
    · exact hw
  have hq : (ws ++ [(q, Sum.inr (ci, fs))])[ws.length]? = some (q, (Sum.inr (ci, fs) : va_E)) := by simp
  have hPq : va_P X.1 vwCl [(q, Sum.inr (ci, fs))] H1 := by
    intro k x hx
    have h1 := List.mem_of_getElem? hx
    rw [List.mem_singleton] at h1
    rw [h1]
    exact hP1 _ _ hq
  have hsub : ∀ z, A1 q H1.size z → A0 z := by
    rintro z (rfl | hz)
    · exact hD1.2 _ _ hq
    · exact hA z (Nat.le_trans hS1.1 hz)
  refine new_k (va_runI (nL := nL) (Ts := tb) (own := own) (As := []) (rest := .ref q :: rest) ⟨hx, hb, hml, hown, hts⟩ (hN q H1.size) (cwI 0 hts hG rfl rfl rfl (by rw [hyC]; exact hts _ hini) (hts _ h1) (hts _ h2) hyn hde ⟨hR.1, hR.2⟩) ⟨PN_blind, fun U hU hW1 => ⟨rfl, by rw [hU], by rw [hU]; exact hPq, hB.warm hW1, hSA.at hS1 hU hW1 hsub⟩⟩ rfl rfl hls rfl (lv_room (by show 1 + (rest.map fun v => v.category).sum ≤ 8; omega)) hd3 ⟨hcs.1, hcs.2⟩) hP1 hD1 hS1 hA (fun ws' H' locs' k1 k2 k3 k4 => kk q ws' H' locs' k1 k2 k3 k4)
/-- a new array, into a final field of the object that stands first -/
theorem W_nf {ws : va_W} {C : String} {Tt : u_T} {N ci index h0 pc n ti k : Nat} {fs rest : List Value} {ty : FieldType} {atype : ArrayType} {v : Int32} (hx : p.tables.exec = Jvm.exec) (hb : c.code = cc) (hown : s.vm.findClass own = some m.cls) (hts : ∀ w ∈ tb, w.before args s = true) (hK : KX X s) (hP : va_P X.1 vwCl ((h0, .inr (ci, fs)) :: ws) H) (hD : va_D A0 ((h0, .inr (ci, fs)) :: ws)) (hS : va_S A0 s.heap H locs) (hA : ∀ q, s.heap.size ≤ q → A0 q) (hmi : meth.name = "<init>")
    (harr : Cond.arrayClass ty ∈ tb) (hat : newarray.typeOf atype = ty) (hti : (tyX X)[ti]? = some (X.2.1 ti, ty)) (hra : ∀ (U : State) (cA : ClassId), va_RA U cA ty → U.vm.findClass ("[" ++ ty.toString) = some cA) (hz : defaultValue ty = .int 0) (hv : v = nI n) (hn : n < 2 ^ 20) (hby : n * componentBytes ty ≤ 536870912)
    (hin : ∀ w ∈ u_ws C Tt N, w ∈ tb) (ty0 : Nat → FieldType) (hty : ∀ k, k < N → parseFieldDescriptor (Tt k).2.2.1 = some (ty0 k)) (hnm : ∀ a, a < N → ∀ b, b < N → a ≠ b → (Tt a).2.1 ≠ (Tt b).2.1) (hc : vwCl[ci]? = some (C, Tt, N)) (hk : k < N) (hlink : Cond.fieldLink own index (Tt k).1 (Tt k).2.1 (Tt k).2.2.1 ∈ tb) (hfin : (Tt k).2.2.2 = true) (hdecl : (Tt k).1 = own) (ht0 : ∀ q : Nat, narrow (ty0 k) (.ref q) = .ref q ∧ fits (ty0 k) (.ref q) = true) (hlen : k < fs.length)
    (hcs : cells + 1 ≤ R.cells ∧ slots + n ≤ R.slots) (hd1 : decode cc pc = .ok (.newarray atype, 2)) (hd2 : decode cc (pc + 2) = .ok (.putfield index, 3))
    (kk : ∀ q H' locs', va_P X.1 vwCl ((h0, .inr (ci, fs.set k (.ref q))) :: (ws ++ [(q, .inl (X.2.1 ti, n, .inl (fun _ => 0)))])) H' → va_D A0 ((h0, .inr (ci, fs.set k (.ref q))) :: (ws ++ [(q, .inl (X.2.1 ti, n, .inl (fun _ => 0)))])) → va_S A0 s.heap H' locs' → W p l e R s m args below meth c H' locs' (cells + 1) (slots + n) Q (F0 m (pc + 2 + 3) ls rest)) : W p l e R s m args below meth c H locs cells slots Q (F0 m pc ls (.int v :: .ref h0 :: rest)) := by
  have hn1 : ¬ v < 0 := by rw [hv]; exact nI_pos (by omega)
  have hn2 : v.toNatClampNeg = n := by rw [hv]; exact nI_clamp (by omega)
  refine va_newa (D := X.1) (cl := vwCl) (atype := atype) (ty := ty) (a0 := (n, .inl (fun _ => 0))) hx hb (by rw [hat]; exact hts _ harr) hat hK.2.1 hP hD hS hA (fun cA => by rw [vp_cell_i, hz]) hn1 hn2 hby hcs.1 hcs.2 hd1 (fun q cA H1 hK1 hP1 hD1 hS1 => ?_)
  have e1 : s.vm.findClass ("[" ++ ty.toString) = some cA := hra s cA (hK1.2 (tyX X).length (cA, ty) (by simp)).2
  have e2 : s.vm.findClass ("[" ++ ty.toString) = some (X.2.1 ti) := hra s _ (hK.2.1.2 ti _ hti).2
  have e3 : cA = X.2.1 ti := by rw [e1] at e2; exact Option.some.inj e2
  subst e3
  refine va_putF (D := X.1) (ci := ci) (v := .ref q) (ty := ty0 k) (C := C) (T := Tt) (N := N) hx hb hts hin ty0 hty hnm hown hK.2.1 hP1 hD1 hS1 0 rfl hc k hk (hts _ hlink) (fun _ h9 => h9) hfin hmi hdecl (hty k hk) (ht0 q).1 (ht0 q).2 hlen hd2 (fun H2 locs2 hP2 hD2 hS2 => ?_)
  exact kk q H2 locs2 hP2 hD2 hS2
/-- 0 into an int field of the object that stands first -/
theorem W_z {ws : va_W} {C : String} {Tt : u_T} {N ci index h0 pc k : Nat} {fs rest : List Value} {v : Int32} (hx : p.tables.exec = Jvm.exec) (hb : c.code = cc) (hown : s.vm.findClass own = some m.cls) (hts : ∀ w ∈ tb, w.before args s = true) (hK : KX X s) (hP : va_P X.1 vwCl ((h0, .inr (ci, fs)) :: ws) H) (hD : va_D A0 ((h0, .inr (ci, fs)) :: ws)) (hS : va_S A0 s.heap H locs)
    (hin : ∀ w ∈ u_ws C Tt N, w ∈ tb) (ty0 : Nat → FieldType) (hty : ∀ k, k < N → parseFieldDescriptor (Tt k).2.2.1 = some (ty0 k)) (hnm : ∀ a, a < N → ∀ b, b < N → a ≠ b → (Tt a).2.1 ≠ (Tt b).2.1) (hc : vwCl[ci]? = some (C, Tt, N)) (hk : k < N) (hlink : Cond.fieldLink own index (Tt k).1 (Tt k).2.1 (Tt k).2.2.1 ∈ tb) (hfin : (Tt k).2.2.2 = false) (hI : ty0 k = .int) (hlen : k < fs.length) (hd2 : decode cc pc = .ok (.putfield index, 3))
    (kk : ∀ H' locs', va_P X.1 vwCl ((h0, .inr (ci, fs.set k (.int v))) :: ws) H' → va_D A0 ((h0, .inr (ci, fs.set k (.int v))) :: ws) → va_S A0 s.heap H' locs' → W p l e R s m args below meth c H' locs' cells slots Q (F0 m (pc + 3) ls rest)) : W p l e R s m args below meth c H locs cells slots Q (F0 m pc ls (.int v :: .ref h0 :: rest)) := by
  refine va_put (D := X.1) (ci := ci) (v := .int v) (ty := .int) (C := C) (T := Tt) (N := N) hx hb hts hin ty0 hty hnm hown hK.2.1 hP hD hS 0 rfl hc k hk (hts _ hlink) (fun _ h9 => h9) hfin ((hty k hk).trans (by rw [hI])) rfl rfl hlen hd2 (fun H2 locs2 hP2 hD2 hS2 => ?_)
  exact kk H2 locs2 hP2 hD2 hS2
end NEWS
