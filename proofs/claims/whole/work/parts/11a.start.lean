/-! THE CLAIM OUT OF ONE WALK OF THE LAW'S BODY. Your part is whole_start (and what it stands on); all else here is the same for every law, but numbers. -/
def R_law : String := "StaleBoundsLaw"
def lw_P (b : Addr) (xs : List Int32) (args : Array Value) (s : State) : Prop := args = #[.ref b] ∧ s.IntsAt b xs ∧ xs.length ≤ 2560 ∧ (Jvm.Cond.and given_1 narrow_1).before args s = true
def lw_Q (_ : Array Value) (s : State) (o : Outcome) (t : State) : Prop := o = .returned (some (.int 1)) ∧ Framed s o t [] 600000 7302250
def lw_Z (below : List Frame) (a : Array Value) (s : State) : State → Prop := fun t => ∃ o, t.status = .running ∧ Ended t below o ∧ lw_Q a s o t
/-- the law's own end, with 1 on the stack, nothing written that was there before, its room as the claim has it -/
theorem lw_ret {p : Program} {l : Launch} {e : Env} {s : State} {m : MethodId} {below : List Frame} {meth : Method} {c : Code} {b : Nat} (hx : p.tables.exec = Jvm.exec) (hb : c.code = code) (hr : meth.sig.returnType = ret) (hlocks : meth.locks = false) {pc : Nat} {H : Heap} {ls : Array Slot} (hdg : decode code pc = .ok (.ireturn, 1)) : W p l e room_1 s m #[Value.ref b] below meth c H [] 600000 7302250 (lw_Z below #[Value.ref b] s) (F0 m pc ls [.int 1]) := by
  intro T hT X
  obtain ⟨fs, hret, hrun, hended, hW, hframe⟩ := X.leave (v := some (.int 1)) (hlocks := hlocks) (fun h => by rw [hr] at h; cases h)
  have hmeth' : T.vm.method? m = some meth := X.method'
  refine ⟨T.setFrames fs, ?_, .returned (some (.int 1)), hrun, hended, rfl, ⟨_, rfl⟩, hW, hframe⟩
  jvm_step X.here [X.here.top, hx, hb, hdg, hmeth', hr, ret, narrow_b1]
  (try refine ⟨rfl, ?_⟩); (try refine ⟨rfl, ?_⟩)
  first | (intro acts; rw [hret _ acts rfl rfl rfl]) | rw [hret _ _ rfl rfl rfl]
  exact Steps.refl _
/-- what holds at the law's entry: the machine, the code, the tables' words (any of lw_tbl by 'hts w (by decide +kernel)'), the script of L ints xs at the cell b, what the Statement gives of the start (any of its parts by flat_of_before) -/
def lw_At (p : Program) (s : State) (m : MethodId) (meth : Method) (c : Code) (b L : Nat) (xs : Nat → Int32) : Prop :=
  p.tables.exec = Jvm.exec ∧ c.code = code ∧ meth.sig.returnType = ret ∧ c.maxLocals = 4 ∧ s.vm.findClass R_law = some m.cls ∧ (∀ w ∈ lw_tbl, w.before #[Value.ref b] s = true) ∧ va_X b L xs s s.heap ∧ b < s.heap.size ∧ meth.locks = false ∧ (Jvm.Cond.and given_1 narrow_1).before #[Value.ref b] s = true

/-! ===== the start: what is known of the tables, of the constants ===== -/
def tmS : Nat → Term
  | 0 => .string "StaleBounds$Text" 86
  | _ => .string "StaleBounds$Text" 91
theorem lw_80 : Cond.methodLinkNest RX1 74 yX3_slot RX3 ∈ lw_tbl := List.mem_of_getElem? (i := 80) (by decide +kernel)
theorem lw_399 : Cond.methodLinkNest RX1 82 yX3_hasBit RX3 ∈ lw_tbl := List.mem_of_getElem? (i := 399) (by decide +kernel)
theorem lw_164 : Cond.methodLinkNest RX3 28 yX2_init RX3 ∈ lw_tbl := List.mem_of_getElem? (i := 164) (by decide +kernel)
theorem lw_149 : Cond.arrayOver (.object "StaleBounds$Ledger") ∈ lw_tbl := List.mem_of_getElem? (i := 149) (by decide +kernel)
theorem lw_260 : Cond.stringRef RX2 86 "copies" ∈ lw_tbl := List.mem_of_getElem? (i := 260) (by decide +kernel)
theorem lw_313 : Cond.stringRef RX2 91 "bounds" ∈ lw_tbl := List.mem_of_getElem? (i := 313) (by decide +kernel)
theorem lw_274 : Cond.laysStatic "java/lang/String" "COMPACT_STRINGS" "Z" ∈ lw_tbl := List.mem_of_getElem? (i := 274) (by decide +kernel)
theorem lw_290 : Cond.laysStatic "jdk/internal/util/Preconditions" "SIOOBE_FORMATTER" "Ljava/util/function/BiFunction;" ∈ lw_tbl := List.mem_of_getElem? (i := 290) (by decide +kernel)
theorem lw_44 : Cond.initialized "java/lang/String" ∈ lw_tbl := List.mem_of_getElem? (i := 44) (by decide +kernel)
theorem lw_46 : Cond.initialized "jdk/internal/util/Preconditions" ∈ lw_tbl := List.mem_of_getElem? (i := 46) (by decide +kernel)
theorem arr_k {args : Array Value} {s : State} {ty : FieldType} (h : (Cond.arrayClass ty).before args s = true) : ∃ cA, ArrOfT s cA ty ∧ s.vm.findClass ("[" ++ ty.toString) = some cA := by
  obtain ⟨cA, kA, comp, h1, h2, h3⟩ := Cond.arrayClass_spec h
  exact ⟨cA, fun n z => ⟨fun k h => (by cases h), kA, h2, comp, h3⟩, h1⟩

set_option maxHeartbeats 4000000 in
set_option maxRecDepth 100000 in
theorem base_ok {p : Program} {s : State} {m : MethodId} {meth : Method} {c : Code} {b L : Nat} {xs : Nat → Int32} (C0 : lw_At p s m meth c b L xs) : ∃ X : Cx, ids X = [] ∧ BX X s ∧ SA X (fun q : Nat => s.heap.size ≤ q) s s.heap := by
  obtain ⟨hx, hb, hr, hml, hown, hts0, hX, hbl, hlocks, hgv⟩ := C0
  have hts : ∀ w ∈ tb, w.before #[Value.ref b] s = true := fun w hw => hts0 w (tb_in w hw)
  have hs := flat_of_before _ hgv
  have hA : ∀ a : Nat, a < s.heap.size → ¬ (fun q : Nat => s.heap.size ≤ q) a := fun a h => Nat.not_le.mpr h
  obtain ⟨c0, i0, k0⟩ := u_known (C := RX0) (T := TX0) (N := 3) (n := 3) hts inX0 (hts _ ins_RX0_3)
  obtain ⟨c1, i1, k1⟩ := u_known (C := RX1) (T := TX1) (N := 13) (n := 13) hts inX1 (hts _ ins_RX1_13)
  obtain ⟨c2, i2, k2⟩ := u_known (C := RX2) (T := TX2) (N := 6) (n := 6) hts inX2 (hts _ ins_RX2_6)
  obtain ⟨c3, i3, k3⟩ := u_known (C := RX3) (T := TX3) (N := 10) (n := 10) hts inX3 (hts _ ins_RX3_10)
  obtain ⟨c4, i4, k4⟩ := u_known (C := RX4) (T := TX4) (N := 17) (n := 17) hts inX4 (hts _ ins_RX4_17)
  obtain ⟨t0, z0, n0⟩ := arr_k (hts _ arr__int)
  obtain ⟨t1, z1, n1⟩ := arr_k (hts _ arr__char)
  obtain ⟨t2, z2, n2⟩ := arr_k (hts _ arr__boolean)
  obtain ⟨comp, t3, kA, v1, -, v2, v3, v4⟩ := Cond.arrayOver_spec (hts0 _ lw_149)
  obtain ⟨sa, sv, hv, hev⟩ := vk_Sof (args := #[Value.ref b]) (s := s) (N := 2) (tm := tmS) (len := [6, 6]) (byt := [[99, 111, 112, 105, 101, 115], [98, 111, 117, 110, 100, 115]]) (A := fun q : Nat => s.heap.size ≤ q)
    (fun i hi => match i, hi with | 0, _ => by decide | 1, _ => by decide)
    (fun i hi => match i, hi with | 0, _ => hs _ (by decide +kernel) | 1, _ => hs _ (by decide +kernel))
    (fun i hi => match i, hi with | 0, _ => hs _ (by decide +kernel) | 1, _ => hs _ (by decide +kernel))
    (fun i hi => match i, hi with | 0, _ => hs _ (by decide +kernel) | 1, _ => hs _ (by decide +kernel))
    (fun i hi => match i, hi with | 0, _ => hs _ (by decide +kernel) | 1, _ => hs _ (by decide +kernel))
    (fun i hi j hj => match i, hi, j, hj with | 0, _, 0, _ => hs _ (by decide +kernel) | 0, _, 1, _ => hs _ (by decide +kernel) | 0, _, 2, _ => hs _ (by decide +kernel) | 0, _, 3, _ => hs _ (by decide +kernel) | 0, _, 4, _ => hs _ (by decide +kernel) | 0, _, 5, _ => hs _ (by decide +kernel) | 1, _, 0, _ => hs _ (by decide +kernel) | 1, _, 1, _ => hs _ (by decide +kernel) | 1, _, 2, _ => hs _ (by decide +kernel) | 1, _, 3, _ => hs _ (by decide +kernel) | 1, _, 4, _ => hs _ (by decide +kernel) | 1, _, 5, _ => hs _ (by decide +kernel))
    (fun i j hi hj hij => match i, hi, j, hj with | 0, _, 0, _ => absurd rfl hij | 0, _, 1, _ => (by first | exact Or.inl (hs _ (by decide +kernel)) | exact Or.inr (hs _ (by decide +kernel))) | 1, _, 0, _ => (by first | exact Or.inl (hs _ (by decide +kernel)) | exact Or.inr (hs _ (by decide +kernel))) | 1, _, 1, _ => absurd rfl hij) hA
  refine ⟨((fun k => match k with | 0 => c0 | 1 => c1 | 2 => c2 | 3 => c3 | _ => c4, fun k => match k with | 0 => i0 | 1 => i1 | 2 => i2 | 3 => i3 | _ => i4), (fun k => match k with | 0 => t0 | 1 => t1 | 2 => t2 | _ => t3), (fun _ _ _ => 0), [], sa, sv), rfl, ⟨⟨?_, ⟨?_, ?_⟩, va_Nw.of rfl (hts0 _ lw_80), va_Nw.of rfl (hts0 _ lw_399), vk_R.of (hts0 _ lw_260) (hev 0 (by decide)), vk_R.of (hts0 _ lw_313) (hev 1 (by decide)), va_Nw.of rfl (hts0 _ lw_164), ?_⟩, va_AO.of (hts0 _ lw_149)⟩, va_Zof (hts0 _ lw_274) (hts0 _ lw_44) (va_eqt (hs _ (by decide +kernel))) hA, hv, va_Zqof (hts0 _ lw_290) (hts0 _ lw_46) (hs _ (by decide +kernel)) hA⟩
  · intro i j p q h
    have h : (([] : List Id3))[i]? = some p := h
    simp at h
  · intro k q hq
    match k, hq with
    | 0, hq => cases hq; exact k0
    | 1, hq => cases hq; exact k1
    | 2, hq => cases hq; exact k2
    | 3, hq => cases hq; exact k3
    | 4, hq => cases hq; exact k4
    | k + 5, hq => simp [vwCl] at hq
  · intro k q hq
    match k, hq with
    | 0, hq => cases hq; exact ⟨z0, n0⟩
    | 1, hq => cases hq; exact ⟨z1, n1⟩
    | 2, hq => cases hq; exact ⟨z2, n2⟩
    | 3, hq => cases hq; exact ⟨fun n z => ⟨fun k h => (by cases h), kA, v2, comp, v3⟩, kA, comp, v2, v3, v1, v4⟩
    | k + 4, hq => simp [tyX] at hq
  · intro i hi
    have hi : i ∈ ([] : List Id3) := hi
    simp at hi

