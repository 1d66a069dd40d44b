/-! ===== String constants, statics; the other ledger ===== -/
section STRS
variable {X : Cx} {l : Launch} {y : MethodName} {cc : ByteArray} {nL : Nat} {ret : Option FieldType} {d pc : Nat} {ls : List (Option Value)} {st : List Value} {σ σ0 : Hp} {h : Rg} {Q : Option Value → Hp → Prop}
abbrev sA (X : Cx) (i : Nat) : Nat := X.2.2.2.2.1 i
abbrev sV (X : Cx) (i : Nat) : Nat := X.2.2.2.2.2 i
/-- the bytes of the constants "copies" and "bounds" -/
def sB (i j : Nat) : Int32 := (([[99, 111, 112, 105, 101, 115], [98, 111, 117, 110, 100, 115]] : List (List Int32)).getD i []).getD j 0
theorem T_ldcS {index q : Nat} {tx : String} (hZ : ∀ s, KX X s → vk_R y.cls index tx q s) (hd : decode cc pc = .ok (.ldc index, 2)) (k : T X l y cc nL ret d (pc + 2) ls (.ref q :: st) σ Q) : T X l y cc nL ret d pc ls st σ Q := by
  intro p e s m args below meth c H locs lsA hF hP hS hl
  exact va_ldcS hF.1 hF.2.1 hF.2.2.2.2.2.1 (hZ s hF.2.2.2.2.2.2.2.1) hd (k p e s m args below meth c H locs lsA hF hP hS hl)
theorem T_sval {i index : Nat} (hi : i < 2) (hlink : Cond.fieldLink y.cls index "java/lang/String" "value" "[B" ∈ tb) (hd : decode cc pc = .ok (.getfield index, 3)) (k : T X l y cc nL ret d (pc + 3) ls (.ref (sV X i) :: st) σ Q) : T X l y cc nL ret d pc ls (.ref (sA X i) :: st) σ Q := by
  intro p e s m args below meth c H locs lsA hF hP hS hl
  exact vk_getf hF.1 hF.2.1 (hF.2.2.2.2.2.2.2.2.2.1.1 i hi).2.2.1 hS hF.2.2.2.2.2.1 (hF.2.2.2.2.2.2.1 _ hlink) (fun _ h => h) hd (k p e s m args below meth c H locs lsA hF hP hS hl)
theorem T_scod {i index : Nat} (hi : i < 2) (hlink : Cond.fieldLink y.cls index "java/lang/String" "coder" "B" ∈ tb) (hd : decode cc pc = .ok (.getfield index, 3)) (k : T X l y cc nL ret d (pc + 3) ls (.int 0 :: st) σ Q) : T X l y cc nL ret d pc ls (.ref (sA X i) :: st) σ Q := by
  intro p e s m args below meth c H locs lsA hF hP hS hl
  exact vk_getf hF.1 hF.2.1 (hF.2.2.2.2.2.2.2.2.2.1.1 i hi).2.1 hS hF.2.2.2.2.2.1 (hF.2.2.2.2.2.2.1 _ hlink) (fun _ h => h) hd (k p e s m args below meth c H locs lsA hF hP hS hl)
theorem T_scmp {index : Nat} (hlink : Cond.fieldLink y.cls index "java/lang/String" "COMPACT_STRINGS" "Z" ∈ tb) (hd : decode cc pc = .ok (.getstatic index, 3)) (k : T X l y cc nL ret d (pc + 3) ls (.int 1 :: st) σ Q) : T X l y cc nL ret d pc ls st σ Q := by
  intro p e s m args below meth c H locs lsA hF hP hS hl
  exact va_gets hF.1 hF.2.1 hF.2.2.2.2.2.2.2.2.1 hS hF.2.2.2.2.2.1 (hF.2.2.2.2.2.2.1 _ hlink) (fun _ h => h) hd (k p e s m args below meth c H locs lsA hF hP hS hl)
theorem T_sfmt {index : Nat} (hlink : Cond.fieldLink y.cls index "jdk/internal/util/Preconditions" "SIOOBE_FORMATTER" "Ljava/util/function/BiFunction;" ∈ tb) (hd : decode cc pc = .ok (.getstatic index, 3)) (k : ∀ v : Value, v.category = 1 → T X l y cc nL ret d (pc + 3) ls (v :: st) σ Q) : T X l y cc nL ret d pc ls st σ Q := by
  intro p e s m args below meth c H locs lsA hF hP hS hl
  rcases hF.2.2.2.2.2.2.2.2.2.2 with hz | ⟨t, hz⟩
  · exact va_gets hF.1 hF.2.1 hz hS hF.2.2.2.2.2.1 (hF.2.2.2.2.2.2.1 _ hlink) (fun _ h => h) hd (k _ rfl p e s m args below meth c H locs lsA hF hP hS hl)
  · exact va_gets hF.1 hF.2.1 hz hS hF.2.2.2.2.2.1 (hF.2.2.2.2.2.2.1 _ hlink) (fun _ h => h) hd (k _ rfl p e s m args below meth c H locs lsA hF hP hS hl)
theorem T_slen {i : Nat} (hi : i < 2) (hd : decode cc pc = .ok (.arraylength, 1)) (k : T X l y cc nL ret d (pc + 1) ls (.int (nI 6) :: st) σ Q) : T X l y cc nL ret d pc ls (.ref (sV X i) :: st) σ Q := by
  intro p e s m args below meth c H locs lsA hF hP hS hl
  have h1 := (hF.2.2.2.2.2.2.2.2.2.1.1 i hi).2.2.2
  refine va_tlen hF.1 hF.2.1 h1 hS (v := nI 6) ?_ hd (k p e s m args below meth c H locs lsA hF hP hS hl)
  rcases (show i = 0 ∨ i = 1 by omega) with rfl | rfl <;> rfl
theorem T_sbal {i j : Nat} (hi : i < 2) (hj : j < 6) (hd : decode cc pc = .ok (.baload, 1)) (k : T X l y cc nL ret d (pc + 1) ls (.int (sB i j) :: st) σ Q) : T X l y cc nL ret d pc ls (.int (nI j) :: .ref (sV X i) :: st) σ Q := by
  intro p e s m args below meth c H locs lsA hF hP hS hl
  have h1 := (hF.2.2.2.2.2.2.2.2.2.1.1 i hi).2.2.2
  refine va_tb hF.1 hF.2.1 h1 hS (v := .int (sB i j)) ?_ ?_ hd (k p e s m args below meth c H locs lsA hF hP hS hl)
  · rcases (show i = 0 ∨ i = 1 by omega) with rfl | rfl <;> exact vp_in_nI hj (by decide)
  · rw [nI_clamp (by omega)]
    rfl
/-- a field of another ledger -/
theorem T_g1O {r r2 index : Nat} {v : Value} (hne : ¬ r2 = r) (hL : Lv X 1 r2) (f : Nat) (hf : f < 13) (hlink : Cond.fieldLink y.cls index (TX1 f).1 (TX1 f).2.1 (TX1 f).2.2.1 ∈ tb) (hv : (fl1 X r2 (σ0 1 r2 0))[f]? = some v) (hd : decode cc pc = .ok (.getfield index, 3)) (k : T X l y cc nL ret d (pc + 3) ls (v :: st) (setR σ0 1 r h) Q) : T X l y cc nL ret d pc ls (.ref (adr X 1 r2 0) :: st) (setR σ0 1 r h) Q :=
  T_get (g := σ0 1 r2 0) (fs := fl1 X r2 (σ0 1 r2 0)) (by rw [setR_ne (fun e => hne e.2)]) (hL 0 (by decide)) rfl rfl inX1 f hf hlink hv hd k
/-- a whole row of another ledger is copied in -/
theorem T_acO {index r r2 k n : Nat} {nn : Int32} (hne : ¬ r2 = r) (hw : Cond.methodLink y.cls index arraycopyName ∈ tb) (hid : (1, r2, k) ∈ ids X) (hid' : (1, r, k) ∈ ids X) (hc : ∀ g : Nat → Int32, cel X g 1 r2 k = arI X 0 n g) (hc' : ∀ g : Nat → Int32, cel X g 1 r k = arI X 0 n g) (hn : n < 2 ^ 31) (hnn : nn = nI n) (hd1 : 2 ≤ d) (hr : (st.map fun v => v.category).sum ≤ 8) (hd : decode cc pc = .ok (.invokestatic index, 3))
    (kk : T X l y cc nL ret d (pc + 3) ls st (setR σ0 1 r (up1 h k (σ0 1 r2 k))) Q) : T X l y cc nL ret d pc ls (.int nn :: .int (nI 0) :: .ref (adr X 1 r k) :: .int (nI 0) :: .ref (adr X 1 r2 k) :: st) (setR σ0 1 r h) Q :=
  T_acopy (g := σ0 1 r2 k) (h' := h) hw nat_arraycopyName sm_arraycopyName ini__java_lang_System_ (by rw [setR_ne (fun e => hne e.2)]) (setR_self σ0 1 r h) hid hid' hc hc' hn rfl rfl hnn hd1 hr (setR_setR σ0 1 r h _) hd kk
end STRS
