
/-! ===== the ledger's words ===== -/
abbrev bit (s : Int32) (w : Nat) : Prop := (s >>> (nI w &&& 31)) &&& nI 1 = nI 1
theorem b01_0 {p : Prop} {_ : Decidable p} (h : (if p then nI 1 else nI 0) = 0) : ¬ p := fun q => by rw [if_pos q] at h; exact absurd h (by decide)
theorem b01_1 {p : Prop} {_ : Decidable p} (h : ¬ (if p then nI 1 else nI 0) = 0) : p := Classical.byContradiction fun q => by rw [if_neg q] at h; exact h (by decide)
/-- the weights of the first n writes that are in s -/
def wSum (g : Nat → Int32) (s : Int32) : Nat → Int32
  | 0 => nI 0
  | n + 1 => if bit s n then wSum g s n + g n else wSum g s n
/-- the first n writes that are c's, as bits -/
def wBy (g : Nat → Int32) (c : Int32) : Nat → Int32
  | 0 => nI 0
  | n + 1 => if g n = c then wBy g c n ||| (nI 1 <<< (nI n &&& 31)) else wBy g c n
def nC (h : Rg) : Nat := (h 0 0).toNatClampNeg
def nW (h : Rg) : Nat := (h 0 2).toNatClampNeg
/-- a ledger's numbers of copies and writes are in range -/
def Wf (h : Rg) : Prop := h 0 0 = nI (nC h) ∧ 2 ≤ nC h ∧ nC h ≤ 4 ∧ h 0 2 = nI (nW h) ∧ nW h ≤ 24
theorem Wf.congr {h h' : Rg} (hw : Wf h) (e : h' 0 = h 0) : Wf h' := by
  unfold Wf nC nW at *
  rw [e]
  exact hw
theorem nC_congr {h h' : Rg} (e : h' 0 = h 0) : nC h' = nC h := by unfold nC; rw [e]
theorem nW_congr {h h' : Rg} (e : h' 0 = h 0) : nW h' = nW h := by unfold nW; rw [e]
def owedS (h : Rg) (c a : Nat) : Int32 := wSum (h 10) (wBy (h 8) (nI c) (nW h) &&& (h 4 a ^^^ -1)) (nW h)
def leftS (h : Rg) (c a : Nat) : Int32 := h 7 (a * 4 + c) - owedS h c a
def allS (h : Rg) : Int32 := (nI 1 <<< (h 0 2 &&& 31)) - nI 1
/-- what bitCount works out -/
def popS (i : Int32) : Int32 :=
  let a := i - ((i.toUInt32 >>> ((nI 1).toUInt32 &&& Int32.toUInt32 31)).toInt32 &&& 1431655765)
  let b := (a &&& 858993459) + ((a.toUInt32 >>> ((nI 2).toUInt32 &&& Int32.toUInt32 31)).toInt32 &&& 858993459)
  let c := (b + (b.toUInt32 >>> ((nI 4).toUInt32 &&& Int32.toUInt32 31)).toInt32) &&& 252645135
  let e := c + (c.toUInt32 >>> ((nI 8).toUInt32 &&& Int32.toUInt32 31)).toInt32
  let f := e + (e.toUInt32 >>> ((nI 16).toUInt32 &&& Int32.toUInt32 31)).toInt32
  f &&& nI 63
def slowS (h : Rg) (a : Nat) : Int32 := popS (h 4 a &&& (h 5 a ^^^ -1))
def spareS (h : Rg) (c : Nat) : Nat → Int32
  | 0 => nI 99
  | n + 1 => if n = c then spareS h c n else (if leftS h c n < spareS h c n then leftS h c n else spareS h c n)
/-- the copies (below n) whose row holds all of s -/
def withS (g : Nat → Int32) (s : Int32) : Nat → Int32
  | 0 => nI 0
  | n + 1 => if g n &&& s = s then withS g s n ||| (nI 1 <<< (nI n &&& 31)) else withS g s n
/-- to how many copies (below n) c would push -/
def pforS (h : Rg) (c : Nat) (m : Int32) : Nat → Nat
  | 0 => 0
  | n + 1 => if n = c then pforS h c m n else if m ≤ leftS h c n then pforS h c m n else pforS h c m n + 1
def learnS (h : Rg) (a : Nat) (s : Int32) : Rg := up2 (up2 h 4 a (h 4 a ||| s)) 5 0 (up2 h 4 a (h 4 a ||| s) 4 0)
def pushS (h : Rg) (c a : Nat) : Rg := up2 (learnS h a (wBy (h 8) (nI c) (nW h))) 6 (a * 4 + c) (h 0 1)
def pifS (h : Rg) (c a : Nat) : Rg := if leftS h c a < 0 then pushS h c a else h
/-- pushes from c to the copies below n: the ledger, how many -/
def accS (h : Rg) (c : Nat) : Nat → Rg × Nat
  | 0 => (h, 0)
  | n + 1 => if n = c then accS h c n else if leftS (accS h c n).1 c n < 0 then (pushS (accS h c n).1 c n, (accS h c n).2 + 1) else accS h c n
def newWS (h : Rg) (c : Nat) (w : Int32) : Rg := up2 (learnS (up2 (up2 (up2 h 8 (nW h) (nI c)) 9 (nW h) (h 0 1)) 10 (nW h) w) c (nI 1 <<< (h 0 2 &&& 31))) 0 2 (h 0 2 + nI 1)
def tkS (h g : Rg) : Rg := up1 (up1 (up1 (up1 (up1 (up1 (up1 (up1 (up1 (up1 (up2 (up2 (up2 h 0 0 (g 0 0)) 0 1 (g 0 1)) 0 2 (g 0 2)) 1 (g 1)) 2 (g 2)) 3 (g 3)) 4 (g 4)) 5 (g 5)) 6 (g 6)) 7 (g 7)) 8 (g 8)) 9 (g 9)) 10 (g 10)
/-- pushes to a from the copies below n -/
def bndS (h : Rg) (a : Nat) : Nat → Rg × Nat
  | 0 => (h, 0)
  | n + 1 => if n = a then bndS h a n else if leftS (bndS h a n).1 n a < 0 then (pushS (bndS h a n).1 n a, (bndS h a n).2 + 1) else bndS h a n
def heaS (h : Rg) (a c : Nat) : Nat → Rg
  | 0 => h
  | n + 1 => if n = a then heaS h a c n else if n = c then heaS h a c n else up2 (heaS h a c n) 6 (a * 4 + n) (if heaS h a c n 6 (a * 4 + n) < heaS h a c n 6 (c * 4 + n) then heaS h a c n 6 (c * 4 + n) else heaS h a c n 6 (a * 4 + n))
def pul0S (h : Rg) (a c : Nat) : Rg := up2 (up2 (learnS h a (h 4 c)) 5 a (learnS h a (h 4 c) 5 a ||| learnS h a (h 4 c) 5 c)) 6 (a * 4 + c) (h 0 1)
def pullS (h : Rg) (a c : Nat) : Rg := heaS (pul0S h a c) a c (nC h)
def redS (h : Rg) (a : Nat) : Nat → Rg × Nat
  | 0 => (h, 0)
  | n + 1 => if n = a then redS h a n else if (redS h a n).1 0 1 - (redS h a n).1 6 (a * 4 + n) ≤ (redS h a n).1 3 a then redS h a n else (pullS (redS h a n).1 a n, (redS h a n).2 + 1)
def readS (h : Rg) (a : Nat) : Rg × Nat := if slowS (redS h a (nC h)).1 a ≤ (redS h a (nC h)).1 2 a then redS h a (nC h) else (pullS (pullS (redS h a (nC h)).1 0 a) a 0, (redS h a (nC h)).2 + 2)
def moveS (h : Rg) (a c e : Nat) (k : Int32) : Rg := up2 (up2 h 7 (a * 4 + c) (h 7 (a * 4 + c) - k)) 7 (a * 4 + e) (up2 h 7 (a * 4 + c) (h 7 (a * 4 + c) - k) 7 (a * 4 + e) + k)
/-- what c gets of t, split among all n copies but a -/
def shareS (n : Nat) (t : Int32) (a c : Nat) : Int32 := t / nI (n - 1) + (if nI (if a < c then c - 1 else c) < t - t / nI (n - 1) * nI (n - 1) then nI 1 else nI 0)
def splS (h : Rg) (a : Nat) : Nat → Rg
  | 0 => h
  | n + 1 => if n = a then splS h a n else up2 (splS h a n) 7 (a * 4 + n) (shareS (nC h) (h 1 a) a n)
def spaS (h : Rg) : Nat → Rg
  | 0 => h
  | n + 1 => splS (spaS h n) n (nC h)
def setbS (h : Rg) (a : Nat) (x y z : Int32) : Rg := up2 (up2 (up2 h 1 a x) 2 a y) 3 a z
def totS (h : Rg) (a : Nat) : Nat → Int32
  | 0 => nI 0
  | n + 1 => if n = a then totS h a n else totS h a n + leftS h n a
def eveS (h : Rg) (a : Nat) (t : Int32) : Nat → Rg
  | 0 => h
  | n + 1 => if n = a then eveS h a t n else up2 (eveS h a t n) 7 (a * 4 + n) (owedS (eveS h a t n) n a + shareS (nC h) t a n)
def bindS (h : Rg) (a : Nat) (x y z : Int32) : Rg × Nat := bndS (if h 1 a = x then setbS h a x y z else splS (setbS h a x y z) a (nC h)) a (nC h)
def fillT (g : Nat → Int32) (v : Int32) : Nat → (Nat → Int32)
  | 0 => g
  | n + 1 => upd (fillT g v n) n v
def newS (h : Rg) : Rg := up1 (up1 (up1 (up1 (up1 (up1 (up2 (up2 (up2 h 0 0 (nI 3)) 0 1 (nI 0)) 0 2 (nI 0)) 1 (fillT (h 1) (nI 99) 4)) 2 (fillT (h 2) (nI 9) 4)) 3 (fillT (h 3) (nI 99) 4)) 4 (fillT (h 4) (nI 0) 4)) 5 (fillT (h 5) (nI 0) 4)) 6 (fillT (h 6) (nI 0) 16)

theorem de_J0_charAt_5068e : yJ0_charAt_5068e.cls ≠ "java/lang/invoke/MethodHandle" ∧ yJ0_charAt_5068e.cls ≠ "java/lang/invoke/VarHandle" ∧ (parseMethodDescriptor yJ0_charAt_5068e.desc).map (fun d => d.parameters.length) = some 1 := by decide +kernel
theorem de_J0_checkIndex_df160 : yJ0_checkIndex_df160.cls ≠ "java/lang/invoke/MethodHandle" ∧ yJ0_checkIndex_df160.cls ≠ "java/lang/invoke/VarHandle" ∧ (parseMethodDescriptor yJ0_checkIndex_df160.desc).map (fun d => d.parameters.length) = some 2 := by decide +kernel
theorem de_J0_coder_7d493 : yJ0_coder_7d493.cls ≠ "java/lang/invoke/MethodHandle" ∧ yJ0_coder_7d493.cls ≠ "java/lang/invoke/VarHandle" ∧ (parseMethodDescriptor yJ0_coder_7d493.desc).map (fun d => d.parameters.length) = some 0 := by decide +kernel
theorem de_J0_isLatin1_aae02 : yJ0_isLatin1_aae02.cls ≠ "java/lang/invoke/MethodHandle" ∧ yJ0_isLatin1_aae02.cls ≠ "java/lang/invoke/VarHandle" ∧ (parseMethodDescriptor yJ0_isLatin1_aae02.desc).map (fun d => d.parameters.length) = some 0 := by decide +kernel
theorem de_J0_length_8abf5 : yJ0_length_8abf5.cls ≠ "java/lang/invoke/MethodHandle" ∧ yJ0_length_8abf5.cls ≠ "java/lang/invoke/VarHandle" ∧ (parseMethodDescriptor yJ0_length_8abf5.desc).map (fun d => d.parameters.length) = some 0 := by decide +kernel
theorem de_J1_charAt_3b067 : yJ1_charAt_3b067.cls ≠ "java/lang/invoke/MethodHandle" ∧ yJ1_charAt_3b067.cls ≠ "java/lang/invoke/VarHandle" ∧ (parseMethodDescriptor yJ1_charAt_3b067.desc).map (fun d => d.parameters.length) = some 2 := by decide +kernel
theorem de_J2_charAt_3b067 : yJ2_charAt_3b067.cls ≠ "java/lang/invoke/MethodHandle" ∧ yJ2_charAt_3b067.cls ≠ "java/lang/invoke/VarHandle" ∧ (parseMethodDescriptor yJ2_charAt_3b067.desc).map (fun d => d.parameters.length) = some 2 := by decide +kernel
theorem de_J2_checkIndex_2214a : yJ2_checkIndex_2214a.cls ≠ "java/lang/invoke/MethodHandle" ∧ yJ2_checkIndex_2214a.cls ≠ "java/lang/invoke/VarHandle" ∧ (parseMethodDescriptor yJ2_checkIndex_2214a.desc).map (fun d => d.parameters.length) = some 2 := by decide +kernel
theorem de_J2_getChar_3b067 : yJ2_getChar_3b067.cls ≠ "java/lang/invoke/MethodHandle" ∧ yJ2_getChar_3b067.cls ≠ "java/lang/invoke/VarHandle" ∧ (parseMethodDescriptor yJ2_getChar_3b067.desc).map (fun d => d.parameters.length) = some 2 := by decide +kernel
theorem de_J2_length_9d52b : yJ2_length_9d52b.cls ≠ "java/lang/invoke/MethodHandle" ∧ yJ2_length_9d52b.cls ≠ "java/lang/invoke/VarHandle" ∧ (parseMethodDescriptor yJ2_length_9d52b.desc).map (fun d => d.parameters.length) = some 1 := by decide +kernel
theorem de_J3_checkIndex_8e157 : yJ3_checkIndex_8e157.cls ≠ "java/lang/invoke/MethodHandle" ∧ yJ3_checkIndex_8e157.cls ≠ "java/lang/invoke/VarHandle" ∧ (parseMethodDescriptor yJ3_checkIndex_8e157.desc).map (fun d => d.parameters.length) = some 3 := by decide +kernel
theorem de_J6_bitCount_0f7a4 : yJ6_bitCount_0f7a4.cls ≠ "java/lang/invoke/MethodHandle" ∧ yJ6_bitCount_0f7a4.cls ≠ "java/lang/invoke/VarHandle" ∧ (parseMethodDescriptor yJ6_bitCount_0f7a4.desc).map (fun d => d.parameters.length) = some 1 := by decide +kernel
theorem de_J7_fill_53178 : yJ7_fill_53178.cls ≠ "java/lang/invoke/MethodHandle" ∧ yJ7_fill_53178.cls ≠ "java/lang/invoke/VarHandle" ∧ (parseMethodDescriptor yJ7_fill_53178.desc).map (fun d => d.parameters.length) = some 2 := by decide +kernel
theorem de_J9_max_7cf53 : yJ9_max_7cf53.cls ≠ "java/lang/invoke/MethodHandle" ∧ yJ9_max_7cf53.cls ≠ "java/lang/invoke/VarHandle" ∧ (parseMethodDescriptor yJ9_max_7cf53.desc).map (fun d => d.parameters.length) = some 2 := by decide +kernel
theorem de_J9_min_7cf53 : yJ9_min_7cf53.cls ≠ "java/lang/invoke/MethodHandle" ∧ yJ9_min_7cf53.cls ≠ "java/lang/invoke/VarHandle" ∧ (parseMethodDescriptor yJ9_min_7cf53.desc).map (fun d => d.parameters.length) = some 2 := by decide +kernel
theorem de_X0_init : yX0_init.cls ≠ "java/lang/invoke/MethodHandle" ∧ yX0_init.cls ≠ "java/lang/invoke/VarHandle" ∧ (parseMethodDescriptor yX0_init.desc).map (fun d => d.parameters.length) = some 0 := by decide +kernel
theorem de_X0_lose : yX0_lose.cls ≠ "java/lang/invoke/MethodHandle" ∧ yX0_lose.cls ≠ "java/lang/invoke/VarHandle" ∧ (parseMethodDescriptor yX0_lose.desc).map (fun d => d.parameters.length) = some 0 := by decide +kernel
theorem de_X0_remember : yX0_remember.cls ≠ "java/lang/invoke/MethodHandle" ∧ yX0_remember.cls ≠ "java/lang/invoke/VarHandle" ∧ (parseMethodDescriptor yX0_remember.desc).map (fun d => d.parameters.length) = some 1 := by decide +kernel
theorem de_X0_restore : yX0_restore.cls ≠ "java/lang/invoke/MethodHandle" ∧ yX0_restore.cls ≠ "java/lang/invoke/VarHandle" ∧ (parseMethodDescriptor yX0_restore.desc).map (fun d => d.parameters.length) = some 1 := by decide +kernel
theorem de_X1_accept : yX1_accept.cls ≠ "java/lang/invoke/MethodHandle" ∧ yX1_accept.cls ≠ "java/lang/invoke/VarHandle" ∧ (parseMethodDescriptor yX1_accept.desc).map (fun d => d.parameters.length) = some 2 := by decide +kernel
theorem de_X1_allWrites : yX1_allWrites.cls ≠ "java/lang/invoke/MethodHandle" ∧ yX1_allWrites.cls ≠ "java/lang/invoke/VarHandle" ∧ (parseMethodDescriptor yX1_allWrites.desc).map (fun d => d.parameters.length) = some 0 := by decide +kernel
theorem de_X1_bindAnew : yX1_bindAnew.cls ≠ "java/lang/invoke/MethodHandle" ∧ yX1_bindAnew.cls ≠ "java/lang/invoke/VarHandle" ∧ (parseMethodDescriptor yX1_bindAnew.desc).map (fun d => d.parameters.length) = some 4 := by decide +kernel
theorem de_X1_copiesWith : yX1_copiesWith.cls ≠ "java/lang/invoke/MethodHandle" ∧ yX1_copiesWith.cls ≠ "java/lang/invoke/VarHandle" ∧ (parseMethodDescriptor yX1_copiesWith.desc).map (fun d => d.parameters.length) = some 2 := by decide +kernel
theorem de_X1_even : yX1_even.cls ≠ "java/lang/invoke/MethodHandle" ∧ yX1_even.cls ≠ "java/lang/invoke/VarHandle" ∧ (parseMethodDescriptor yX1_even.desc).map (fun d => d.parameters.length) = some 1 := by decide +kernel
theorem de_X1_init : yX1_init.cls ≠ "java/lang/invoke/MethodHandle" ∧ yX1_init.cls ≠ "java/lang/invoke/VarHandle" ∧ (parseMethodDescriptor yX1_init.desc).map (fun d => d.parameters.length) = some 0 := by decide +kernel
theorem de_X1_isBound : yX1_isBound.cls ≠ "java/lang/invoke/MethodHandle" ∧ yX1_isBound.cls ≠ "java/lang/invoke/VarHandle" ∧ (parseMethodDescriptor yX1_isBound.desc).map (fun d => d.parameters.length) = some 4 := by decide +kernel
theorem de_X1_lack : yX1_lack.cls ≠ "java/lang/invoke/MethodHandle" ∧ yX1_lack.cls ≠ "java/lang/invoke/VarHandle" ∧ (parseMethodDescriptor yX1_lack.desc).map (fun d => d.parameters.length) = some 1 := by decide +kernel
theorem de_X1_learn : yX1_learn.cls ≠ "java/lang/invoke/MethodHandle" ∧ yX1_learn.cls ≠ "java/lang/invoke/VarHandle" ∧ (parseMethodDescriptor yX1_learn.desc).map (fun d => d.parameters.length) = some 2 := by decide +kernel
theorem de_X1_left : yX1_left.cls ≠ "java/lang/invoke/MethodHandle" ∧ yX1_left.cls ≠ "java/lang/invoke/VarHandle" ∧ (parseMethodDescriptor yX1_left.desc).map (fun d => d.parameters.length) = some 2 := by decide +kernel
theorem de_X1_move : yX1_move.cls ≠ "java/lang/invoke/MethodHandle" ∧ yX1_move.cls ≠ "java/lang/invoke/VarHandle" ∧ (parseMethodDescriptor yX1_move.desc).map (fun d => d.parameters.length) = some 4 := by decide +kernel
theorem de_X1_owed : yX1_owed.cls ≠ "java/lang/invoke/MethodHandle" ∧ yX1_owed.cls ≠ "java/lang/invoke/VarHandle" ∧ (parseMethodDescriptor yX1_owed.desc).map (fun d => d.parameters.length) = some 2 := by decide +kernel
theorem de_X1_pull : yX1_pull.cls ≠ "java/lang/invoke/MethodHandle" ∧ yX1_pull.cls ≠ "java/lang/invoke/VarHandle" ∧ (parseMethodDescriptor yX1_pull.desc).map (fun d => d.parameters.length) = some 2 := by decide +kernel
theorem de_X1_pushIfOver : yX1_pushIfOver.cls ≠ "java/lang/invoke/MethodHandle" ∧ yX1_pushIfOver.cls ≠ "java/lang/invoke/VarHandle" ∧ (parseMethodDescriptor yX1_pushIfOver.desc).map (fun d => d.parameters.length) = some 2 := by decide +kernel
theorem de_X1_pushesFor : yX1_pushesFor.cls ≠ "java/lang/invoke/MethodHandle" ∧ yX1_pushesFor.cls ≠ "java/lang/invoke/VarHandle" ∧ (parseMethodDescriptor yX1_pushesFor.desc).map (fun d => d.parameters.length) = some 2 := by decide +kernel
theorem de_X1_read : yX1_read.cls ≠ "java/lang/invoke/MethodHandle" ∧ yX1_read.cls ≠ "java/lang/invoke/VarHandle" ∧ (parseMethodDescriptor yX1_read.desc).map (fun d => d.parameters.length) = some 1 := by decide +kernel
theorem de_X1_setBounds : yX1_setBounds.cls ≠ "java/lang/invoke/MethodHandle" ∧ yX1_setBounds.cls ≠ "java/lang/invoke/VarHandle" ∧ (parseMethodDescriptor yX1_setBounds.desc).map (fun d => d.parameters.length) = some 4 := by decide +kernel
theorem de_X1_shareOf : yX1_shareOf.cls ≠ "java/lang/invoke/MethodHandle" ∧ yX1_shareOf.cls ≠ "java/lang/invoke/VarHandle" ∧ (parseMethodDescriptor yX1_shareOf.desc).map (fun d => d.parameters.length) = some 3 := by decide +kernel
theorem de_X1_slow : yX1_slow.cls ≠ "java/lang/invoke/MethodHandle" ∧ yX1_slow.cls ≠ "java/lang/invoke/VarHandle" ∧ (parseMethodDescriptor yX1_slow.desc).map (fun d => d.parameters.length) = some 1 := by decide +kernel
theorem de_X1_spare : yX1_spare.cls ≠ "java/lang/invoke/MethodHandle" ∧ yX1_spare.cls ≠ "java/lang/invoke/VarHandle" ∧ (parseMethodDescriptor yX1_spare.desc).map (fun d => d.parameters.length) = some 1 := by decide +kernel
theorem de_X1_splitAllNumbers : yX1_splitAllNumbers.cls ≠ "java/lang/invoke/MethodHandle" ∧ yX1_splitAllNumbers.cls ≠ "java/lang/invoke/VarHandle" ∧ (parseMethodDescriptor yX1_splitAllNumbers.desc).map (fun d => d.parameters.length) = some 0 := by decide +kernel
theorem de_X1_splitNumber : yX1_splitNumber.cls ≠ "java/lang/invoke/MethodHandle" ∧ yX1_splitNumber.cls ≠ "java/lang/invoke/VarHandle" ∧ (parseMethodDescriptor yX1_splitNumber.desc).map (fun d => d.parameters.length) = some 1 := by decide +kernel
theorem de_X1_startAnew : yX1_startAnew.cls ≠ "java/lang/invoke/MethodHandle" ∧ yX1_startAnew.cls ≠ "java/lang/invoke/VarHandle" ∧ (parseMethodDescriptor yX1_startAnew.desc).map (fun d => d.parameters.length) = some 0 := by decide +kernel
theorem de_X1_sum : yX1_sum.cls ≠ "java/lang/invoke/MethodHandle" ∧ yX1_sum.cls ≠ "java/lang/invoke/VarHandle" ∧ (parseMethodDescriptor yX1_sum.desc).map (fun d => d.parameters.length) = some 1 := by decide +kernel
theorem de_X1_takeFrom : yX1_takeFrom.cls ≠ "java/lang/invoke/MethodHandle" ∧ yX1_takeFrom.cls ≠ "java/lang/invoke/VarHandle" ∧ (parseMethodDescriptor yX1_takeFrom.desc).map (fun d => d.parameters.length) = some 1 := by decide +kernel
theorem de_X1_weightOf : yX1_weightOf.cls ≠ "java/lang/invoke/MethodHandle" ∧ yX1_weightOf.cls ≠ "java/lang/invoke/VarHandle" ∧ (parseMethodDescriptor yX1_weightOf.desc).map (fun d => d.parameters.length) = some 1 := by decide +kernel
theorem de_X1_writesBy : yX1_writesBy.cls ≠ "java/lang/invoke/MethodHandle" ∧ yX1_writesBy.cls ≠ "java/lang/invoke/VarHandle" ∧ (parseMethodDescriptor yX1_writesBy.desc).map (fun d => d.parameters.length) = some 1 := by decide +kernel
theorem de_X2_add : yX2_add.cls ≠ "java/lang/invoke/MethodHandle" ∧ yX2_add.cls ≠ "java/lang/invoke/VarHandle" ∧ (parseMethodDescriptor yX2_add.desc).map (fun d => d.parameters.length) = some 1 := by decide +kernel
theorem de_X2_drop : yX2_drop.cls ≠ "java/lang/invoke/MethodHandle" ∧ yX2_drop.cls ≠ "java/lang/invoke/VarHandle" ∧ (parseMethodDescriptor yX2_drop.desc).map (fun d => d.parameters.length) = some 0 := by decide +kernel
theorem de_X2_findTokens : yX2_findTokens.cls ≠ "java/lang/invoke/MethodHandle" ∧ yX2_findTokens.cls ≠ "java/lang/invoke/VarHandle" ∧ (parseMethodDescriptor yX2_findTokens.desc).map (fun d => d.parameters.length) = some 0 := by decide +kernel
theorem de_X2_init : yX2_init.cls ≠ "java/lang/invoke/MethodHandle" ∧ yX2_init.cls ≠ "java/lang/invoke/VarHandle" ∧ (parseMethodDescriptor yX2_init.desc).map (fun d => d.parameters.length) = some 0 := by decide +kernel
theorem de_X2_isFigure : yX2_isFigure.cls ≠ "java/lang/invoke/MethodHandle" ∧ yX2_isFigure.cls ≠ "java/lang/invoke/VarHandle" ∧ (parseMethodDescriptor yX2_isFigure.desc).map (fun d => d.parameters.length) = some 1 := by decide +kernel
theorem de_X2_isSmallLetter : yX2_isSmallLetter.cls ≠ "java/lang/invoke/MethodHandle" ∧ yX2_isSmallLetter.cls ≠ "java/lang/invoke/VarHandle" ∧ (parseMethodDescriptor yX2_isSmallLetter.desc).map (fun d => d.parameters.length) = some 1 := by decide +kernel
theorem de_X2_passKind : yX2_passKind.cls ≠ "java/lang/invoke/MethodHandle" ∧ yX2_passKind.cls ≠ "java/lang/invoke/VarHandle" ∧ (parseMethodDescriptor yX2_passKind.desc).map (fun d => d.parameters.length) = some 1 := by decide +kernel
theorem de_X2_passNumber : yX2_passNumber.cls ≠ "java/lang/invoke/MethodHandle" ∧ yX2_passNumber.cls ≠ "java/lang/invoke/VarHandle" ∧ (parseMethodDescriptor yX2_passNumber.desc).map (fun d => d.parameters.length) = some 2 := by decide +kernel
theorem de_X2_spells : yX2_spells.cls ≠ "java/lang/invoke/MethodHandle" ∧ yX2_spells.cls ≠ "java/lang/invoke/VarHandle" ∧ (parseMethodDescriptor yX2_spells.desc).map (fun d => d.parameters.length) = some 3 := by decide +kernel
theorem de_X2_takeFigures : yX2_takeFigures.cls ≠ "java/lang/invoke/MethodHandle" ∧ yX2_takeFigures.cls ≠ "java/lang/invoke/VarHandle" ∧ (parseMethodDescriptor yX2_takeFigures.desc).map (fun d => d.parameters.length) = some 2 := by decide +kernel
theorem de_X2_takeToken : yX2_takeToken.cls ≠ "java/lang/invoke/MethodHandle" ∧ yX2_takeToken.cls ≠ "java/lang/invoke/VarHandle" ∧ (parseMethodDescriptor yX2_takeToken.desc).map (fun d => d.parameters.length) = some 2 := by decide +kernel
theorem de_X2_takeWord : yX2_takeWord.cls ≠ "java/lang/invoke/MethodHandle" ∧ yX2_takeWord.cls ≠ "java/lang/invoke/VarHandle" ∧ (parseMethodDescriptor yX2_takeWord.desc).map (fun d => d.parameters.length) = some 2 := by decide +kernel
theorem de_X2_tellBounds : yX2_tellBounds.cls ≠ "java/lang/invoke/MethodHandle" ∧ yX2_tellBounds.cls ≠ "java/lang/invoke/VarHandle" ∧ (parseMethodDescriptor yX2_tellBounds.desc).map (fun d => d.parameters.length) = some 1 := by decide +kernel
theorem de_X2_tellCopies : yX2_tellCopies.cls ≠ "java/lang/invoke/MethodHandle" ∧ yX2_tellCopies.cls ≠ "java/lang/invoke/VarHandle" ∧ (parseMethodDescriptor yX2_tellCopies.desc).map (fun d => d.parameters.length) = some 1 := by decide +kernel
theorem de_X2_tellInto : yX2_tellInto.cls ≠ "java/lang/invoke/MethodHandle" ∧ yX2_tellInto.cls ≠ "java/lang/invoke/VarHandle" ∧ (parseMethodDescriptor yX2_tellInto.desc).map (fun d => d.parameters.length) = some 1 := by decide +kernel
theorem de_X2_tellItem : yX2_tellItem.cls ≠ "java/lang/invoke/MethodHandle" ∧ yX2_tellItem.cls ≠ "java/lang/invoke/VarHandle" ∧ (parseMethodDescriptor yX2_tellItem.desc).map (fun d => d.parameters.length) = some 2 := by decide +kernel
theorem de_X3_accepts : yX3_accepts.cls ≠ "java/lang/invoke/MethodHandle" ∧ yX3_accepts.cls ≠ "java/lang/invoke/VarHandle" ∧ (parseMethodDescriptor yX3_accepts.desc).map (fun d => d.parameters.length) = some 2 := by decide +kernel
theorem de_X3_alikeWith : yX3_alikeWith.cls ≠ "java/lang/invoke/MethodHandle" ∧ yX3_alikeWith.cls ≠ "java/lang/invoke/VarHandle" ∧ (parseMethodDescriptor yX3_alikeWith.desc).map (fun d => d.parameters.length) = some 2 := by decide +kernel
theorem de_X3_answerOf : yX3_answerOf.cls ≠ "java/lang/invoke/MethodHandle" ∧ yX3_answerOf.cls ≠ "java/lang/invoke/VarHandle" ∧ (parseMethodDescriptor yX3_answerOf.desc).map (fun d => d.parameters.length) = some 2 := by decide +kernel
theorem de_X3_arePair : yX3_arePair.cls ≠ "java/lang/invoke/MethodHandle" ∧ yX3_arePair.cls ≠ "java/lang/invoke/VarHandle" ∧ (parseMethodDescriptor yX3_arePair.desc).map (fun d => d.parameters.length) = some 2 := by decide +kernel
theorem de_X3_ask : yX3_ask.cls ≠ "java/lang/invoke/MethodHandle" ∧ yX3_ask.cls ≠ "java/lang/invoke/VarHandle" ∧ (parseMethodDescriptor yX3_ask.desc).map (fun d => d.parameters.length) = some 0 := by decide +kernel
theorem de_X3_back : yX3_back.cls ≠ "java/lang/invoke/MethodHandle" ∧ yX3_back.cls ≠ "java/lang/invoke/VarHandle" ∧ (parseMethodDescriptor yX3_back.desc).map (fun d => d.parameters.length) = some 1 := by decide +kernel
theorem de_X3_bounds : yX3_bounds.cls ≠ "java/lang/invoke/MethodHandle" ∧ yX3_bounds.cls ≠ "java/lang/invoke/VarHandle" ∧ (parseMethodDescriptor yX3_bounds.desc).map (fun d => d.parameters.length) = some 4 := by decide +kernel
theorem de_X3_clear : yX3_clear.cls ≠ "java/lang/invoke/MethodHandle" ∧ yX3_clear.cls ≠ "java/lang/invoke/VarHandle" ∧ (parseMethodDescriptor yX3_clear.desc).map (fun d => d.parameters.length) = some 0 := by decide +kernel
theorem de_X3_copy : yX3_copy.cls ≠ "java/lang/invoke/MethodHandle" ∧ yX3_copy.cls ≠ "java/lang/invoke/VarHandle" ∧ (parseMethodDescriptor yX3_copy.desc).map (fun d => d.parameters.length) = some 2 := by decide +kernel
theorem de_X3_costs : yX3_costs.cls ≠ "java/lang/invoke/MethodHandle" ∧ yX3_costs.cls ≠ "java/lang/invoke/VarHandle" ∧ (parseMethodDescriptor yX3_costs.desc).map (fun d => d.parameters.length) = some 2 := by decide +kernel
theorem de_X3_count : yX3_count.cls ≠ "java/lang/invoke/MethodHandle" ∧ yX3_count.cls ≠ "java/lang/invoke/VarHandle" ∧ (parseMethodDescriptor yX3_count.desc).map (fun d => d.parameters.length) = some 1 := by decide +kernel
theorem de_X3_evens : yX3_evens.cls ≠ "java/lang/invoke/MethodHandle" ∧ yX3_evens.cls ≠ "java/lang/invoke/VarHandle" ∧ (parseMethodDescriptor yX3_evens.desc).map (fun d => d.parameters.length) = some 1 := by decide +kernel
theorem de_X3_fitsAllSeen : yX3_fitsAllSeen.cls ≠ "java/lang/invoke/MethodHandle" ∧ yX3_fitsAllSeen.cls ≠ "java/lang/invoke/VarHandle" ∧ (parseMethodDescriptor yX3_fitsAllSeen.desc).map (fun d => d.parameters.length) = some 1 := by decide +kernel
theorem de_X3_forget : yX3_forget.cls ≠ "java/lang/invoke/MethodHandle" ∧ yX3_forget.cls ≠ "java/lang/invoke/VarHandle" ∧ (parseMethodDescriptor yX3_forget.desc).map (fun d => d.parameters.length) = some 0 := by decide +kernel
theorem de_X3_hasBit : yX3_hasBit.cls ≠ "java/lang/invoke/MethodHandle" ∧ yX3_hasBit.cls ≠ "java/lang/invoke/VarHandle" ∧ (parseMethodDescriptor yX3_hasBit.desc).map (fun d => d.parameters.length) = some 2 := by decide +kernel
theorem de_X3_init : yX3_init.cls ≠ "java/lang/invoke/MethodHandle" ∧ yX3_init.cls ≠ "java/lang/invoke/VarHandle" ∧ (parseMethodDescriptor yX3_init.desc).map (fun d => d.parameters.length) = some 0 := by decide +kernel
theorem de_X3_isCopy : yX3_isCopy.cls ≠ "java/lang/invoke/MethodHandle" ∧ yX3_isCopy.cls ≠ "java/lang/invoke/VarHandle" ∧ (parseMethodDescriptor yX3_isCopy.desc).map (fun d => d.parameters.length) = some 1 := by decide +kernel
theorem de_X3_keep : yX3_keep.cls ≠ "java/lang/invoke/MethodHandle" ∧ yX3_keep.cls ≠ "java/lang/invoke/VarHandle" ∧ (parseMethodDescriptor yX3_keep.desc).map (fun d => d.parameters.length) = some 1 := by decide +kernel
theorem de_X3_mostAlike : yX3_mostAlike.cls ≠ "java/lang/invoke/MethodHandle" ∧ yX3_mostAlike.cls ≠ "java/lang/invoke/VarHandle" ∧ (parseMethodDescriptor yX3_mostAlike.desc).map (fun d => d.parameters.length) = some 2 := by decide +kernel
theorem de_X3_moves : yX3_moves.cls ≠ "java/lang/invoke/MethodHandle" ∧ yX3_moves.cls ≠ "java/lang/invoke/VarHandle" ∧ (parseMethodDescriptor yX3_moves.desc).map (fun d => d.parameters.length) = some 4 := by decide +kernel
theorem de_X3_pair : yX3_pair.cls ≠ "java/lang/invoke/MethodHandle" ∧ yX3_pair.cls ≠ "java/lang/invoke/VarHandle" ∧ (parseMethodDescriptor yX3_pair.desc).map (fun d => d.parameters.length) = some 3 := by decide +kernel
theorem de_X3_passes : yX3_passes.cls ≠ "java/lang/invoke/MethodHandle" ∧ yX3_passes.cls ≠ "java/lang/invoke/VarHandle" ∧ (parseMethodDescriptor yX3_passes.desc).map (fun d => d.parameters.length) = some 1 := by decide +kernel
theorem de_X3_pulls : yX3_pulls.cls ≠ "java/lang/invoke/MethodHandle" ∧ yX3_pulls.cls ≠ "java/lang/invoke/VarHandle" ∧ (parseMethodDescriptor yX3_pulls.desc).map (fun d => d.parameters.length) = some 2 := by decide +kernel
theorem de_X3_reads : yX3_reads.cls ≠ "java/lang/invoke/MethodHandle" ∧ yX3_reads.cls ≠ "java/lang/invoke/VarHandle" ∧ (parseMethodDescriptor yX3_reads.desc).map (fun d => d.parameters.length) = some 1 := by decide +kernel
theorem de_X3_sees : yX3_sees.cls ≠ "java/lang/invoke/MethodHandle" ∧ yX3_sees.cls ≠ "java/lang/invoke/VarHandle" ∧ (parseMethodDescriptor yX3_sees.desc).map (fun d => d.parameters.length) = some 2 := by decide +kernel
theorem de_X3_slot : yX3_slot.cls ≠ "java/lang/invoke/MethodHandle" ∧ yX3_slot.cls ≠ "java/lang/invoke/VarHandle" ∧ (parseMethodDescriptor yX3_slot.desc).map (fun d => d.parameters.length) = some 2 := by decide +kernel
theorem de_X3_tells : yX3_tells.cls ≠ "java/lang/invoke/MethodHandle" ∧ yX3_tells.cls ≠ "java/lang/invoke/VarHandle" ∧ (parseMethodDescriptor yX3_tells.desc).map (fun d => d.parameters.length) = some 0 := by decide +kernel
theorem de_X3_type : yX3_type.cls ≠ "java/lang/invoke/MethodHandle" ∧ yX3_type.cls ≠ "java/lang/invoke/VarHandle" ∧ (parseMethodDescriptor yX3_type.desc).map (fun d => d.parameters.length) = some 1 := by decide +kernel
theorem de_X3_undo : yX3_undo.cls ≠ "java/lang/invoke/MethodHandle" ∧ yX3_undo.cls ≠ "java/lang/invoke/VarHandle" ∧ (parseMethodDescriptor yX3_undo.desc).map (fun d => d.parameters.length) = some 0 := by decide +kernel
theorem de_X3_which : yX3_which.cls ≠ "java/lang/invoke/MethodHandle" ∧ yX3_which.cls ≠ "java/lang/invoke/VarHandle" ∧ (parseMethodDescriptor yX3_which.desc).map (fun d => d.parameters.length) = some 0 := by decide +kernel
theorem de_X3_write : yX3_write.cls ≠ "java/lang/invoke/MethodHandle" ∧ yX3_write.cls ≠ "java/lang/invoke/VarHandle" ∧ (parseMethodDescriptor yX3_write.desc).map (fun d => d.parameters.length) = some 2 := by decide +kernel
theorem de_X4_acceptedBy : yX4_acceptedBy.cls ≠ "java/lang/invoke/MethodHandle" ∧ yX4_acceptedBy.cls ≠ "java/lang/invoke/VarHandle" ∧ (parseMethodDescriptor yX4_acceptedBy.desc).map (fun d => d.parameters.length) = some 1 := by decide +kernel
theorem de_X4_accepts : yX4_accepts.cls ≠ "java/lang/invoke/MethodHandle" ∧ yX4_accepts.cls ≠ "java/lang/invoke/VarHandle" ∧ (parseMethodDescriptor yX4_accepts.desc).map (fun d => d.parameters.length) = some 2 := by decide +kernel
theorem de_X4_arePair : yX4_arePair.cls ≠ "java/lang/invoke/MethodHandle" ∧ yX4_arePair.cls ≠ "java/lang/invoke/VarHandle" ∧ (parseMethodDescriptor yX4_arePair.desc).map (fun d => d.parameters.length) = some 2 := by decide +kernel
theorem de_X4_ask : yX4_ask.cls ≠ "java/lang/invoke/MethodHandle" ∧ yX4_ask.cls ≠ "java/lang/invoke/VarHandle" ∧ (parseMethodDescriptor yX4_ask.desc).map (fun d => d.parameters.length) = some 0 := by decide +kernel
theorem de_X4_back : yX4_back.cls ≠ "java/lang/invoke/MethodHandle" ∧ yX4_back.cls ≠ "java/lang/invoke/VarHandle" ∧ (parseMethodDescriptor yX4_back.desc).map (fun d => d.parameters.length) = some 1 := by decide +kernel
theorem de_X4_beginRead : yX4_beginRead.cls ≠ "java/lang/invoke/MethodHandle" ∧ yX4_beginRead.cls ≠ "java/lang/invoke/VarHandle" ∧ (parseMethodDescriptor yX4_beginRead.desc).map (fun d => d.parameters.length) = some 0 := by decide +kernel
theorem de_X4_bounds : yX4_bounds.cls ≠ "java/lang/invoke/MethodHandle" ∧ yX4_bounds.cls ≠ "java/lang/invoke/VarHandle" ∧ (parseMethodDescriptor yX4_bounds.desc).map (fun d => d.parameters.length) = some 4 := by decide +kernel
theorem de_X4_budgetCell : yX4_budgetCell.cls ≠ "java/lang/invoke/MethodHandle" ∧ yX4_budgetCell.cls ≠ "java/lang/invoke/VarHandle" ∧ (parseMethodDescriptor yX4_budgetCell.desc).map (fun d => d.parameters.length) = some 2 := by decide +kernel
theorem de_X4_candidates : yX4_candidates.cls ≠ "java/lang/invoke/MethodHandle" ∧ yX4_candidates.cls ≠ "java/lang/invoke/VarHandle" ∧ (parseMethodDescriptor yX4_candidates.desc).map (fun d => d.parameters.length) = some 0 := by decide +kernel
theorem de_X4_clear : yX4_clear.cls ≠ "java/lang/invoke/MethodHandle" ∧ yX4_clear.cls ≠ "java/lang/invoke/VarHandle" ∧ (parseMethodDescriptor yX4_clear.desc).map (fun d => d.parameters.length) = some 0 := by decide +kernel
theorem de_X4_copy : yX4_copy.cls ≠ "java/lang/invoke/MethodHandle" ∧ yX4_copy.cls ≠ "java/lang/invoke/VarHandle" ∧ (parseMethodDescriptor yX4_copy.desc).map (fun d => d.parameters.length) = some 2 := by decide +kernel
theorem de_X4_copyState : yX4_copyState.cls ≠ "java/lang/invoke/MethodHandle" ∧ yX4_copyState.cls ≠ "java/lang/invoke/VarHandle" ∧ (parseMethodDescriptor yX4_copyState.desc).map (fun d => d.parameters.length) = some 4 := by decide +kernel
theorem de_X4_costs : yX4_costs.cls ≠ "java/lang/invoke/MethodHandle" ∧ yX4_costs.cls ≠ "java/lang/invoke/VarHandle" ∧ (parseMethodDescriptor yX4_costs.desc).map (fun d => d.parameters.length) = some 2 := by decide +kernel
theorem de_X4_count : yX4_count.cls ≠ "java/lang/invoke/MethodHandle" ∧ yX4_count.cls ≠ "java/lang/invoke/VarHandle" ∧ (parseMethodDescriptor yX4_count.desc).map (fun d => d.parameters.length) = some 1 := by decide +kernel
theorem de_X4_countBits : yX4_countBits.cls ≠ "java/lang/invoke/MethodHandle" ∧ yX4_countBits.cls ≠ "java/lang/invoke/VarHandle" ∧ (parseMethodDescriptor yX4_countBits.desc).map (fun d => d.parameters.length) = some 1 := by decide +kernel
theorem de_X4_evens : yX4_evens.cls ≠ "java/lang/invoke/MethodHandle" ∧ yX4_evens.cls ≠ "java/lang/invoke/VarHandle" ∧ (parseMethodDescriptor yX4_evens.desc).map (fun d => d.parameters.length) = some 1 := by decide +kernel
theorem de_X4_forget : yX4_forget.cls ≠ "java/lang/invoke/MethodHandle" ∧ yX4_forget.cls ≠ "java/lang/invoke/VarHandle" ∧ (parseMethodDescriptor yX4_forget.desc).map (fun d => d.parameters.length) = some 0 := by decide +kernel
theorem de_X4_fullCopies : yX4_fullCopies.cls ≠ "java/lang/invoke/MethodHandle" ∧ yX4_fullCopies.cls ≠ "java/lang/invoke/VarHandle" ∧ (parseMethodDescriptor yX4_fullCopies.desc).map (fun d => d.parameters.length) = some 0 := by decide +kernel
theorem de_X4_heardCell : yX4_heardCell.cls ≠ "java/lang/invoke/MethodHandle" ∧ yX4_heardCell.cls ≠ "java/lang/invoke/VarHandle" ∧ (parseMethodDescriptor yX4_heardCell.desc).map (fun d => d.parameters.length) = some 2 := by decide +kernel
theorem de_X4_holders : yX4_holders.cls ≠ "java/lang/invoke/MethodHandle" ∧ yX4_holders.cls ≠ "java/lang/invoke/VarHandle" ∧ (parseMethodDescriptor yX4_holders.desc).map (fun d => d.parameters.length) = some 2 := by decide +kernel
theorem de_X4_in : yX4_in.cls ≠ "java/lang/invoke/MethodHandle" ∧ yX4_in.cls ≠ "java/lang/invoke/VarHandle" ∧ (parseMethodDescriptor yX4_in.desc).map (fun d => d.parameters.length) = some 3 := by decide +kernel
theorem de_X4_init : yX4_init.cls ≠ "java/lang/invoke/MethodHandle" ∧ yX4_init.cls ≠ "java/lang/invoke/VarHandle" ∧ (parseMethodDescriptor yX4_init.desc).map (fun d => d.parameters.length) = some 0 := by decide +kernel
theorem de_X4_isCopy : yX4_isCopy.cls ≠ "java/lang/invoke/MethodHandle" ∧ yX4_isCopy.cls ≠ "java/lang/invoke/VarHandle" ∧ (parseMethodDescriptor yX4_isCopy.desc).map (fun d => d.parameters.length) = some 1 := by decide +kernel
theorem de_X4_isDigit : yX4_isDigit.cls ≠ "java/lang/invoke/MethodHandle" ∧ yX4_isDigit.cls ≠ "java/lang/invoke/VarHandle" ∧ (parseMethodDescriptor yX4_isDigit.desc).map (fun d => d.parameters.length) = some 0 := by decide +kernel
theorem de_X4_isLetter : yX4_isLetter.cls ≠ "java/lang/invoke/MethodHandle" ∧ yX4_isLetter.cls ≠ "java/lang/invoke/VarHandle" ∧ (parseMethodDescriptor yX4_isLetter.desc).map (fun d => d.parameters.length) = some 0 := by decide +kernel
theorem de_X4_keep : yX4_keep.cls ≠ "java/lang/invoke/MethodHandle" ∧ yX4_keep.cls ≠ "java/lang/invoke/VarHandle" ∧ (parseMethodDescriptor yX4_keep.desc).map (fun d => d.parameters.length) = some 1 := by decide +kernel
theorem de_X4_keepZeroFast : yX4_keepZeroFast.cls ≠ "java/lang/invoke/MethodHandle" ∧ yX4_keepZeroFast.cls ≠ "java/lang/invoke/VarHandle" ∧ (parseMethodDescriptor yX4_keepZeroFast.desc).map (fun d => d.parameters.length) = some 0 := by decide +kernel
theorem de_X4_largestGroup : yX4_largestGroup.cls ≠ "java/lang/invoke/MethodHandle" ∧ yX4_largestGroup.cls ≠ "java/lang/invoke/VarHandle" ∧ (parseMethodDescriptor yX4_largestGroup.desc).map (fun d => d.parameters.length) = some 2 := by decide +kernel
theorem de_X4_left : yX4_left.cls ≠ "java/lang/invoke/MethodHandle" ∧ yX4_left.cls ≠ "java/lang/invoke/VarHandle" ∧ (parseMethodDescriptor yX4_left.desc).map (fun d => d.parameters.length) = some 2 := by decide +kernel
theorem de_X4_moves : yX4_moves.cls ≠ "java/lang/invoke/MethodHandle" ∧ yX4_moves.cls ≠ "java/lang/invoke/VarHandle" ∧ (parseMethodDescriptor yX4_moves.desc).map (fun d => d.parameters.length) = some 4 := by decide +kernel
theorem de_X4_next : yX4_next.cls ≠ "java/lang/invoke/MethodHandle" ∧ yX4_next.cls ≠ "java/lang/invoke/VarHandle" ∧ (parseMethodDescriptor yX4_next.desc).map (fun d => d.parameters.length) = some 0 := by decide +kernel
theorem de_X4_owed : yX4_owed.cls ≠ "java/lang/invoke/MethodHandle" ∧ yX4_owed.cls ≠ "java/lang/invoke/VarHandle" ∧ (parseMethodDescriptor yX4_owed.desc).map (fun d => d.parameters.length) = some 2 := by decide +kernel
theorem de_X4_pair : yX4_pair.cls ≠ "java/lang/invoke/MethodHandle" ∧ yX4_pair.cls ≠ "java/lang/invoke/VarHandle" ∧ (parseMethodDescriptor yX4_pair.desc).map (fun d => d.parameters.length) = some 3 := by decide +kernel
theorem de_X4_parse : yX4_parse.cls ≠ "java/lang/invoke/MethodHandle" ∧ yX4_parse.cls ≠ "java/lang/invoke/VarHandle" ∧ (parseMethodDescriptor yX4_parse.desc).map (fun d => d.parameters.length) = some 0 := by decide +kernel
theorem de_X4_passes : yX4_passes.cls ≠ "java/lang/invoke/MethodHandle" ∧ yX4_passes.cls ≠ "java/lang/invoke/VarHandle" ∧ (parseMethodDescriptor yX4_passes.desc).map (fun d => d.parameters.length) = some 1 := by decide +kernel
theorem de_X4_property : yX4_property.cls ≠ "java/lang/invoke/MethodHandle" ∧ yX4_property.cls ≠ "java/lang/invoke/VarHandle" ∧ (parseMethodDescriptor yX4_property.desc).map (fun d => d.parameters.length) = some 2 := by decide +kernel
theorem de_X4_pull : yX4_pull.cls ≠ "java/lang/invoke/MethodHandle" ∧ yX4_pull.cls ≠ "java/lang/invoke/VarHandle" ∧ (parseMethodDescriptor yX4_pull.desc).map (fun d => d.parameters.length) = some 2 := by decide +kernel
theorem de_X4_pulls : yX4_pulls.cls ≠ "java/lang/invoke/MethodHandle" ∧ yX4_pulls.cls ≠ "java/lang/invoke/VarHandle" ∧ (parseMethodDescriptor yX4_pulls.desc).map (fun d => d.parameters.length) = some 2 := by decide +kernel
theorem de_X4_push : yX4_push.cls ≠ "java/lang/invoke/MethodHandle" ∧ yX4_push.cls ≠ "java/lang/invoke/VarHandle" ∧ (parseMethodDescriptor yX4_push.desc).map (fun d => d.parameters.length) = some 2 := by decide +kernel
theorem de_X4_readBounds : yX4_readBounds.cls ≠ "java/lang/invoke/MethodHandle" ∧ yX4_readBounds.cls ≠ "java/lang/invoke/VarHandle" ∧ (parseMethodDescriptor yX4_readBounds.desc).map (fun d => d.parameters.length) = some 0 := by decide +kernel
theorem de_X4_readBy : yX4_readBy.cls ≠ "java/lang/invoke/MethodHandle" ∧ yX4_readBy.cls ≠ "java/lang/invoke/VarHandle" ∧ (parseMethodDescriptor yX4_readBy.desc).map (fun d => d.parameters.length) = some 1 := by decide +kernel
theorem de_X4_readCost : yX4_readCost.cls ≠ "java/lang/invoke/MethodHandle" ∧ yX4_readCost.cls ≠ "java/lang/invoke/VarHandle" ∧ (parseMethodDescriptor yX4_readCost.desc).map (fun d => d.parameters.length) = some 1 := by decide +kernel
theorem de_X4_readItem : yX4_readItem.cls ≠ "java/lang/invoke/MethodHandle" ∧ yX4_readItem.cls ≠ "java/lang/invoke/VarHandle" ∧ (parseMethodDescriptor yX4_readItem.desc).map (fun d => d.parameters.length) = some 1 := by decide +kernel
theorem de_X4_readNumber : yX4_readNumber.cls ≠ "java/lang/invoke/MethodHandle" ∧ yX4_readNumber.cls ≠ "java/lang/invoke/VarHandle" ∧ (parseMethodDescriptor yX4_readNumber.desc).map (fun d => d.parameters.length) = some 2 := by decide +kernel
theorem de_X4_reads : yX4_reads.cls ≠ "java/lang/invoke/MethodHandle" ∧ yX4_reads.cls ≠ "java/lang/invoke/VarHandle" ∧ (parseMethodDescriptor yX4_reads.desc).map (fun d => d.parameters.length) = some 1 := by decide +kernel
theorem de_X4_save : yX4_save.cls ≠ "java/lang/invoke/MethodHandle" ∧ yX4_save.cls ≠ "java/lang/invoke/VarHandle" ∧ (parseMethodDescriptor yX4_save.desc).map (fun d => d.parameters.length) = some 0 := by decide +kernel
theorem de_X4_sees : yX4_sees.cls ≠ "java/lang/invoke/MethodHandle" ∧ yX4_sees.cls ≠ "java/lang/invoke/VarHandle" ∧ (parseMethodDescriptor yX4_sees.desc).map (fun d => d.parameters.length) = some 2 := by decide +kernel
theorem de_X4_setBudgets : yX4_setBudgets.cls ≠ "java/lang/invoke/MethodHandle" ∧ yX4_setBudgets.cls ≠ "java/lang/invoke/VarHandle" ∧ (parseMethodDescriptor yX4_setBudgets.desc).map (fun d => d.parameters.length) = some 1 := by decide +kernel
theorem de_X4_setBudgetsFor : yX4_setBudgetsFor.cls ≠ "java/lang/invoke/MethodHandle" ∧ yX4_setBudgetsFor.cls ≠ "java/lang/invoke/VarHandle" ∧ (parseMethodDescriptor yX4_setBudgetsFor.desc).map (fun d => d.parameters.length) = some 2 := by decide +kernel
theorem de_X4_slowCount : yX4_slowCount.cls ≠ "java/lang/invoke/MethodHandle" ∧ yX4_slowCount.cls ≠ "java/lang/invoke/VarHandle" ∧ (parseMethodDescriptor yX4_slowCount.desc).map (fun d => d.parameters.length) = some 1 := by decide +kernel
theorem de_X4_spare : yX4_spare.cls ≠ "java/lang/invoke/MethodHandle" ∧ yX4_spare.cls ≠ "java/lang/invoke/VarHandle" ∧ (parseMethodDescriptor yX4_spare.desc).map (fun d => d.parameters.length) = some 1 := by decide +kernel
theorem de_X4_sumOf : yX4_sumOf.cls ≠ "java/lang/invoke/MethodHandle" ∧ yX4_sumOf.cls ≠ "java/lang/invoke/VarHandle" ∧ (parseMethodDescriptor yX4_sumOf.desc).map (fun d => d.parameters.length) = some 1 := by decide +kernel
theorem de_X4_tells : yX4_tells.cls ≠ "java/lang/invoke/MethodHandle" ∧ yX4_tells.cls ≠ "java/lang/invoke/VarHandle" ∧ (parseMethodDescriptor yX4_tells.desc).map (fun d => d.parameters.length) = some 0 := by decide +kernel
theorem de_X4_type : yX4_type.cls ≠ "java/lang/invoke/MethodHandle" ∧ yX4_type.cls ≠ "java/lang/invoke/VarHandle" ∧ (parseMethodDescriptor yX4_type.desc).map (fun d => d.parameters.length) = some 1 := by decide +kernel
theorem de_X4_undo : yX4_undo.cls ≠ "java/lang/invoke/MethodHandle" ∧ yX4_undo.cls ≠ "java/lang/invoke/VarHandle" ∧ (parseMethodDescriptor yX4_undo.desc).map (fun d => d.parameters.length) = some 0 := by decide +kernel
theorem de_X4_weight : yX4_weight.cls ≠ "java/lang/invoke/MethodHandle" ∧ yX4_weight.cls ≠ "java/lang/invoke/VarHandle" ∧ (parseMethodDescriptor yX4_weight.desc).map (fun d => d.parameters.length) = some 1 := by decide +kernel
theorem de_X4_which : yX4_which.cls ≠ "java/lang/invoke/MethodHandle" ∧ yX4_which.cls ≠ "java/lang/invoke/VarHandle" ∧ (parseMethodDescriptor yX4_which.desc).map (fun d => d.parameters.length) = some 0 := by decide +kernel
theorem de_X4_wordToken : yX4_wordToken.cls ≠ "java/lang/invoke/MethodHandle" ∧ yX4_wordToken.cls ≠ "java/lang/invoke/VarHandle" ∧ (parseMethodDescriptor yX4_wordToken.desc).map (fun d => d.parameters.length) = some 0 := by decide +kernel
theorem de_X4_write : yX4_write.cls ≠ "java/lang/invoke/MethodHandle" ∧ yX4_write.cls ≠ "java/lang/invoke/VarHandle" ∧ (parseMethodDescriptor yX4_write.desc).map (fun d => d.parameters.length) = some 2 := by decide +kernel
