section NEWS2
variable {p : Program} {l : Launch} {e : Env} {R : Room} {s : State} {m : MethodId} {args : Array Value} {below : List Frame} {meth : Method} {c : Code} {H : Heap} {locs : List Loc} {cells slots : Nat} {Q : State → Prop} {ls : Array Slot} {A0 : Nat → Prop} {X : Cx} {cc : ByteArray} {nL : Nat} {own : String}
/-- the same, the constructor a nest mate's -/
theorem W_newCN {ws : va_W} {C : String} {Tt : u_T} {N ci i1 i2 d2 nL2 mc ms pc : Nat} {y2 : MethodName} {cc2 : ByteArray} {host : String} {fs rest : List Value} {Ps : Nat → va_W → Prop} (hN : NewC l X y2 cc2 nL2 d2 ci fs mc ms Ps) (hx : p.tables.exec = Jvm.exec) (hb : c.code = cc) (hml : c.maxLocals = nL) (hown : s.vm.findClass own = some m.cls) (hts : ∀ w ∈ tb, w.before args s = true) (hB : BX X s) (hSA : SA X A0 s s.heap) (hP : va_P X.1 vwCl ws H) (hD : va_D A0 ws) (hS : va_S A0 s.heap H locs) (hA : ∀ q, s.heap.size ≤ q → A0 q) (hls : ls.size = nL)
    (hin : ∀ w ∈ u_ws C Tt N, w ∈ tb) (ty : Nat → FieldType) (hty : ∀ k, k < N → parseFieldDescriptor (Tt k).2.2.1 = some (ty k)) (hcl : Cond.classLink own i1 C ∈ tb) (hinst : Cond.instantiable C N ∈ tb) (hini : Cond.initialized C ∈ tb) (hc : vwCl[ci]? = some (C, Tt, N)) (hfs : ∀ j, j < N → defaultValue (ty j) = vp_V fs j)
    (h1 : va_Nw (.methodLinkNest own i2 y2 host) s) (h2 : Cond.instanceMethod y2 ∈ tb) (h5 : Cond.code y2 cc2 nL2 none ∈ tb) (hyC : y2.cls = C) (hyn : y2.name = "<init>") (hde : y2.cls ≠ "java/lang/invoke/MethodHandle" ∧ y2.cls ≠ "java/lang/invoke/VarHandle" ∧ (parseMethodDescriptor y2.desc).map (fun d => d.parameters.length) = some 0)
    (hR : d2 + 1 ≤ R.frames ∧ 8 + (nL2 + 11) + 36 * d2 ≤ R.locals) (hcs : cells + 1 + mc ≤ R.cells ∧ slots + N + ms ≤ R.slots) (hW : (rest.map fun v => v.category).sum ≤ 7) (hd1 : decode cc pc = .ok (.new i1, 3)) (hd2 : decode cc (pc + 3) = .ok (.dup, 1)) (hd3 : decode cc (pc + 3 + 1) = .ok (.invokespecial i2, 3))
    (kk : ∀ q ws' H' locs', Ps q ws' → va_P X.1 vwCl (ws ++ ws') H' → va_D A0 (ws ++ ws') → va_S A0 s.heap H' locs' → W p l e R s m args below meth c H' locs' (cells + 1 + mc) (slots + N + ms) Q (F0 m (pc + 3 + 1 + 3) ls (.ref q :: rest))) : W p l e R s m args below meth c H locs cells slots Q (F0 m pc ls rest) := by
  refine va_new (ci := ci) (fs := fs) (C := C) (T := Tt) (N := N) hx hb hts hin ty hty hown (hts _ hcl) (hts _ hinst) (hts _ hini) hB.1.2.1 hP hD hS hA hc hfs (by omega) (by omega) hd1 (fun q H1 hP1 hD1 hS1 => ?_)
  refine lv_dup hx hb hd2 rfl ?_
  have hG : GoodIn tb (Cond.code y2 cc2 nL2 none :: tb) := by
    intro w hw
    refine tb_good w ?_
    rcases List.mem_cons.mp hw with rfl | hw
    · exact h5
    · exact hw
  have hq : (ws ++ [(q, Sum.inr (ci, fs))])[ws.length]? = some (q, (Sum.inr (ci, fs) : va_E)) := by simp
  have hPq : va_P X.1 vwCl [(q, Sum.inr (ci, fs))] H1 := by
    intro k x hx
    have h1 := List.mem_of_getElem? hx
    rw [List.mem_singleton] at h1
    rw [h1]
    exact hP1 _ _ hq
  have hsub : ∀ z, A1 q H1.size z → A0 z := by
    rintro z (rfl | hz)
    · exact hD1.2 _ _ hq
    · exact hA z (Nat.le_trans hS1.1 hz)
  refine new_k (va_runIN (nL := nL) (Ts := tb) (own := own) (As := []) (rest := .ref q :: rest) ⟨hx, hb, hml, hown, hts⟩ (hN q H1.size) ⟨va_cnB 0 hts hG rfl rfl rfl h1 (by rw [hyC]; exact hts _ hini) hde ⟨hR.1, hR.2⟩, hyn, hts _ h2⟩ ⟨PN_blind, fun U hU hW1 => ⟨rfl, by rw [hU], by rw [hU]; exact hPq, hB.warm hW1, hSA.at hS1 hU hW1 hsub⟩⟩ rfl rfl hls rfl (lv_room (by show 1 + (rest.map fun v => v.category).sum ≤ 8; omega)) hd3 ⟨hcs.1, hcs.2⟩) hP1 hD1 hS1 hA (fun ws' H' locs' k1 k2 k3 k4 => kk q ws' H' locs' k1 k2 k3 k4)
/-- a reference, into a final field of the object that stands first -/
theorem W_pf {ws : va_W} {C : String} {Tt : u_T} {N ci index h0 pc k q : Nat} {fs rest : List Value} (hx : p.tables.exec = Jvm.exec) (hb : c.code = cc) (hown : s.vm.findClass own = some m.cls) (hts : ∀ w ∈ tb, w.before args s = true) (hK : KX X s) (hP : va_P X.1 vwCl ((h0, .inr (ci, fs)) :: ws) H) (hD : va_D A0 ((h0, .inr (ci, fs)) :: ws)) (hS : va_S A0 s.heap H locs) (hmi : meth.name = "<init>")
    (hin : ∀ w ∈ u_ws C Tt N, w ∈ tb) (ty0 : Nat → FieldType) (hty : ∀ k, k < N → parseFieldDescriptor (Tt k).2.2.1 = some (ty0 k)) (hnm : ∀ a, a < N → ∀ b, b < N → a ≠ b → (Tt a).2.1 ≠ (Tt b).2.1) (hc : vwCl[ci]? = some (C, Tt, N)) (hk : k < N) (hlink : Cond.fieldLink own index (Tt k).1 (Tt k).2.1 (Tt k).2.2.1 ∈ tb) (hfin : (Tt k).2.2.2 = true) (hdecl : (Tt k).1 = own) (ht0 : ∀ q : Nat, narrow (ty0 k) (.ref q) = .ref q ∧ fits (ty0 k) (.ref q) = true) (hlen : k < fs.length) (hd2 : decode cc pc = .ok (.putfield index, 3))
    (kk : ∀ H' locs', va_P X.1 vwCl ((h0, .inr (ci, fs.set k (.ref q))) :: ws) H' → va_D A0 ((h0, .inr (ci, fs.set k (.ref q))) :: ws) → va_S A0 s.heap H' locs' → W p l e R s m args below meth c H' locs' cells slots Q (F0 m (pc + 3) ls rest)) : W p l e R s m args below meth c H locs cells slots Q (F0 m pc ls (.ref q :: .ref h0 :: rest)) := by
  refine va_putF (D := X.1) (ci := ci) (v := .ref q) (ty := ty0 k) (C := C) (T := Tt) (N := N) hx hb hts hin ty0 hty hnm hown hK.2.1 hP hD hS 0 rfl hc k hk (hts _ hlink) (fun _ h9 => h9) hfin hmi hdecl (hty k hk) (ht0 q).1 (ht0 q).2 hlen hd2 (fun H2 locs2 hP2 hD2 hS2 => ?_)
  exact kk H2 locs2 hP2 hD2 hS2
/-- a new row of ledgers -/
theorem W_nq {ws : va_W} {index pc n : Nat} {rest : List Value} {v : Int32} (hx : p.tables.exec = Jvm.exec) (hb : c.code = cc) (hown : s.vm.findClass own = some m.cls) (hts : ∀ w ∈ tb, w.before args s = true) (hB : BX X s) (hP : va_P X.1 vwCl ws H) (hD : va_D A0 ws) (hS : va_S A0 s.heap H locs) (hA : ∀ q, s.heap.size ≤ q → A0 q) (hcl : Cond.classLink own index "StaleBounds$Ledger" ∈ tb) (hv : v = nI n) (hn : n < 2 ^ 20)
    (hcs : cells + 1 ≤ R.cells ∧ slots + n ≤ R.slots) (hd1 : decode cc pc = .ok (.anewarray index, 3))
    (kk : ∀ q H', va_P X.1 vwCl (ws ++ [(q, .inl (X.2.1 3, n, .inr (.inr (.inr (.inr (fun _ => none))))))]) H' → va_D A0 (ws ++ [(q, .inl (X.2.1 3, n, .inr (.inr (.inr (.inr (fun _ => none))))))]) → va_S A0 s.heap H' locs → W p l e R s m args below meth c H' locs (cells + 1) (slots + n) Q (F0 m (pc + 3) ls (.ref q :: rest))) : W p l e R s m args below meth c H locs cells slots Q (F0 m pc ls (.int v :: rest)) := by
  have hn1 : ¬ v < 0 := by rw [hv]; exact nI_pos (by omega)
  have hn2 : v.toNatClampNeg = n := by rw [hv]; exact nI_clamp (by omega)
  refine va_newq (D := X.1) (cl := vwCl) hx hb hown (hts _ hcl) hB.2 hB.1.2.1 hP hD hS hA hn1 hn2 (by omega) hcs.1 hcs.2 hd1 (fun q cA H1 hK1 hP1 hD1 hS1 => ?_)
  obtain ⟨-, -, -, -, -, e1⟩ := (hK1.2 (tyX X).length (cA, .object "StaleBounds$Ledger") (by simp)).2
  obtain ⟨-, -, -, -, -, e2⟩ := (hB.1.2.1.2 3 (X.2.1 3, .object "StaleBounds$Ledger") rfl).2
  have e3 : cA = X.2.1 3 := by rw [e1] at e2; exact Option.some.inj e2
  subst e3
  exact kk q H1 hP1 hD1 hS1
end NEWS2
theorem get_mid {α : Type} (w x : α) (r : List α) : ∀ M : List α, (w :: (M ++ x :: r))[M.length + 1]? = some x := by
  intro M
  simp
theorem set_mid {α : Type} (w x y : α) (r : List α) : ∀ M : List α, (w :: (M ++ x :: r)).set (M.length + 1) y = w :: (M ++ y :: r) := by
  intro M
  simp
/-- rows of references that agree where they are -/
theorem ref_at {D : va_G} {cl : List vw_C} {a n : Nat} {cA : ClassId} {f g : Nat → Option Nat} {H : Heap} (h : ∀ j, j < n → f j = g j) (hf : va_at D cl (a, .inl (cA, n, .inr (.inr (.inr (.inr f))))) H) : va_at D cl (a, .inl (cA, n, .inr (.inr (.inr (.inr g))))) H := by
  have e : vp_cell cA (n, .inr (.inr (.inr (.inr f)))) = vp_cell cA (n, .inr (.inr (.inr (.inr g)))) := by
    rw [vp_cell_q, vp_cell_q]
    unfold arrV
    congr 2
    funext j
    show va_rf (f j.val) = va_rf (g j.val)
    rw [h j.val j.isLt]
  show H[a]? = some (vp_cell cA (n, .inr (.inr (.inr (.inr g)))))
  rw [← e]
  exact hf
theorem ref_P {D : va_G} {cl : List vw_C} {a n : Nat} {cA : ClassId} {f g : Nat → Option Nat} {H : Heap} {w : Nat × va_E} {M r : va_W} (h : ∀ j, j < n → f j = g j) (hf : va_P D cl (w :: (M ++ (a, .inl (cA, n, .inr (.inr (.inr (.inr f))))) :: r)) H) : va_P D cl (w :: (M ++ (a, .inl (cA, n, .inr (.inr (.inr (.inr g))))) :: r)) H := by
  intro k q hk
  by_cases e : k = M.length + 1
  · rw [e, get_mid] at hk
    cases hk
    exact ref_at h (hf _ _ (get_mid _ _ _ M))
  · have : (w :: (M ++ (a, (Sum.inl (cA, n, .inr (.inr (.inr (.inr f)))) : va_E)) :: r))[k]? = some q := by
      rw [← set_mid w (a, (Sum.inl (cA, n, .inr (.inr (.inr (.inr g)))) : va_E)) (a, (Sum.inl (cA, n, .inr (.inr (.inr (.inr f)))) : va_E)) r M, List.getElem?_set_ne (fun z => e z.symm)]
      exact hk
    exact hf k q this
theorem D_mid {A : Nat → Prop} {a : Nat} {x y : va_E} {w : Nat × va_E} {M r : va_W} (h : va_D A (w :: (M ++ (a, x) :: r))) : va_D A (w :: (M ++ (a, y) :: r)) := by
  have := h.set (e := y) (get_mid w (a, x) r M)
  rw [set_mid] at this
  exact this
