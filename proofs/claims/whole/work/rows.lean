section
-- ===== PART A: goes FIRST, ahead of the names: the tables' words, and 'selects' of the private methods out of them =====
/-- a private method of a class that the tables say can be made, by its rows of tables_1 -/
def lw_okq (q : MethodName × Nat) : Prop := (q.1.cls ≠ "java/lang/invoke/MethodHandle" ∧ q.1.cls ≠ "java/lang/invoke/VarHandle") ∧ Cond.instantiable q.1.cls q.2 ∈ tables_1 ∧ Cond.privateMethod q.1 ∈ tables_1 ∧ Cond.instanceMethod q.1 ∈ tables_1
theorem lw_p0 : lw_okq (⟨"StaleBounds", "isCopy", "(I)Z"⟩, 10) := ⟨⟨by decide +kernel, by decide +kernel⟩, List.mem_of_getElem? (i := 15) (by decide +kernel), List.mem_of_getElem? (i := 331) (by decide +kernel), List.mem_of_getElem? (i := 332) (by decide +kernel)⟩
theorem lw_p1 : lw_okq (⟨"StaleBounds", "arePair", "(II)Z"⟩, 10) := ⟨⟨by decide +kernel, by decide +kernel⟩, List.mem_of_getElem? (i := 15) (by decide +kernel), List.mem_of_getElem? (i := 374) (by decide +kernel), List.mem_of_getElem? (i := 375) (by decide +kernel)⟩
theorem lw_p2 : lw_okq (⟨"StaleBounds", "answerOf", "(II)I"⟩, 10) := ⟨⟨by decide +kernel, by decide +kernel⟩, List.mem_of_getElem? (i := 15) (by decide +kernel), List.mem_of_getElem? (i := 447) (by decide +kernel), List.mem_of_getElem? (i := 448) (by decide +kernel)⟩
theorem lw_p3 : lw_okq (⟨"StaleBounds", "fitsAllSeen", "(I)Z"⟩, 10) := ⟨⟨by decide +kernel, by decide +kernel⟩, List.mem_of_getElem? (i := 15) (by decide +kernel), List.mem_of_getElem? (i := 503) (by decide +kernel), List.mem_of_getElem? (i := 504) (by decide +kernel)⟩
theorem lw_p4 : lw_okq (⟨"StaleBounds", "mostAlike", "(II)I"⟩, 10) := ⟨⟨by decide +kernel, by decide +kernel⟩, List.mem_of_getElem? (i := 15) (by decide +kernel), List.mem_of_getElem? (i := 512) (by decide +kernel), List.mem_of_getElem? (i := 513) (by decide +kernel)⟩
theorem lw_p5 : lw_okq (⟨"StaleBounds", "alikeWith", "(II)I"⟩, 10) := ⟨⟨by decide +kernel, by decide +kernel⟩, List.mem_of_getElem? (i := 15) (by decide +kernel), List.mem_of_getElem? (i := 517) (by decide +kernel), List.mem_of_getElem? (i := 518) (by decide +kernel)⟩
theorem lw_p6 : lw_okq (⟨"StaleBoundsModel", "beginRead", "()V"⟩, 17) := ⟨⟨by decide +kernel, by decide +kernel⟩, List.mem_of_getElem? (i := 540) (by decide +kernel), List.mem_of_getElem? (i := 546) (by decide +kernel), List.mem_of_getElem? (i := 547) (by decide +kernel)⟩
theorem lw_p7 : lw_okq (⟨"StaleBoundsModel", "parse", "()I"⟩, 17) := ⟨⟨by decide +kernel, by decide +kernel⟩, List.mem_of_getElem? (i := 540) (by decide +kernel), List.mem_of_getElem? (i := 626) (by decide +kernel), List.mem_of_getElem? (i := 627) (by decide +kernel)⟩
theorem lw_p8 : lw_okq (⟨"StaleBoundsModel", "next", "()V"⟩, 17) := ⟨⟨by decide +kernel, by decide +kernel⟩, List.mem_of_getElem? (i := 540) (by decide +kernel), List.mem_of_getElem? (i := 630) (by decide +kernel), List.mem_of_getElem? (i := 631) (by decide +kernel)⟩
theorem lw_p9 : lw_okq (⟨"StaleBoundsModel", "isLetter", "()Z"⟩, 17) := ⟨⟨by decide +kernel, by decide +kernel⟩, List.mem_of_getElem? (i := 540) (by decide +kernel), List.mem_of_getElem? (i := 634) (by decide +kernel), List.mem_of_getElem? (i := 635) (by decide +kernel)⟩
theorem lw_p10 : lw_okq (⟨"StaleBoundsModel", "wordToken", "()I"⟩, 17) := ⟨⟨by decide +kernel, by decide +kernel⟩, List.mem_of_getElem? (i := 540) (by decide +kernel), List.mem_of_getElem? (i := 638) (by decide +kernel), List.mem_of_getElem? (i := 639) (by decide +kernel)⟩
theorem lw_p11 : lw_okq (⟨"StaleBoundsModel", "isDigit", "()Z"⟩, 17) := ⟨⟨by decide +kernel, by decide +kernel⟩, List.mem_of_getElem? (i := 540) (by decide +kernel), List.mem_of_getElem? (i := 646) (by decide +kernel), List.mem_of_getElem? (i := 647) (by decide +kernel)⟩
theorem lw_p12 : lw_okq (⟨"StaleBoundsModel", "readItem", "(Z)Z"⟩, 17) := ⟨⟨by decide +kernel, by decide +kernel⟩, List.mem_of_getElem? (i := 540) (by decide +kernel), List.mem_of_getElem? (i := 650) (by decide +kernel), List.mem_of_getElem? (i := 651) (by decide +kernel)⟩
theorem lw_p13 : lw_okq (⟨"StaleBoundsModel", "readNumber", "(II)Z"⟩, 17) := ⟨⟨by decide +kernel, by decide +kernel⟩, List.mem_of_getElem? (i := 540) (by decide +kernel), List.mem_of_getElem? (i := 654) (by decide +kernel), List.mem_of_getElem? (i := 655) (by decide +kernel)⟩
theorem lw_p14 : lw_okq (⟨"StaleBoundsModel", "readBounds", "()Z"⟩, 17) := ⟨⟨by decide +kernel, by decide +kernel⟩, List.mem_of_getElem? (i := 540) (by decide +kernel), List.mem_of_getElem? (i := 658) (by decide +kernel), List.mem_of_getElem? (i := 659) (by decide +kernel)⟩
theorem lw_p15 : lw_okq (⟨"StaleBoundsModel", "save", "()V"⟩, 17) := ⟨⟨by decide +kernel, by decide +kernel⟩, List.mem_of_getElem? (i := 540) (by decide +kernel), List.mem_of_getElem? (i := 662) (by decide +kernel), List.mem_of_getElem? (i := 663) (by decide +kernel)⟩
def lw_privs_1 : List (MethodName × Nat) := [(⟨"StaleBounds", "isCopy", "(I)Z"⟩, 10), (⟨"StaleBounds", "arePair", "(II)Z"⟩, 10), (⟨"StaleBounds", "answerOf", "(II)I"⟩, 10), (⟨"StaleBounds", "fitsAllSeen", "(I)Z"⟩, 10), (⟨"StaleBounds", "mostAlike", "(II)I"⟩, 10), (⟨"StaleBounds", "alikeWith", "(II)I"⟩, 10), (⟨"StaleBoundsModel", "beginRead", "()V"⟩, 17), (⟨"StaleBoundsModel", "parse", "()I"⟩, 17), (⟨"StaleBoundsModel", "next", "()V"⟩, 17), (⟨"StaleBoundsModel", "isLetter", "()Z"⟩, 17), (⟨"StaleBoundsModel", "wordToken", "()I"⟩, 17), (⟨"StaleBoundsModel", "isDigit", "()Z"⟩, 17), (⟨"StaleBoundsModel", "readItem", "(Z)Z"⟩, 17), (⟨"StaleBoundsModel", "readNumber", "(II)Z"⟩, 17), (⟨"StaleBoundsModel", "readBounds", "()Z"⟩, 17), (⟨"StaleBoundsModel", "save", "()V"⟩, 17)]
theorem lw_r1 : ∀ q ∈ lw_privs_1, lw_okq q := List.forall_mem_cons.mpr ⟨lw_p0, List.forall_mem_cons.mpr ⟨lw_p1, List.forall_mem_cons.mpr ⟨lw_p2, List.forall_mem_cons.mpr ⟨lw_p3, List.forall_mem_cons.mpr ⟨lw_p4, List.forall_mem_cons.mpr ⟨lw_p5, List.forall_mem_cons.mpr ⟨lw_p6, List.forall_mem_cons.mpr ⟨lw_p7, List.forall_mem_cons.mpr ⟨lw_p8, List.forall_mem_cons.mpr ⟨lw_p9, List.forall_mem_cons.mpr ⟨lw_p10, List.forall_mem_cons.mpr ⟨lw_p11, List.forall_mem_cons.mpr ⟨lw_p12, List.forall_mem_cons.mpr ⟨lw_p13, List.forall_mem_cons.mpr ⟨lw_p14, List.forall_mem_cons.mpr ⟨lw_p15, fun _ h => absurd h List.not_mem_nil⟩⟩⟩⟩⟩⟩⟩⟩⟩⟩⟩⟩⟩⟩⟩⟩
theorem lw_p16 : lw_okq (⟨"StaleBoundsModel", "isCopy", "(I)Z"⟩, 17) := ⟨⟨by decide +kernel, by decide +kernel⟩, List.mem_of_getElem? (i := 540) (by decide +kernel), List.mem_of_getElem? (i := 670) (by decide +kernel), List.mem_of_getElem? (i := 671) (by decide +kernel)⟩
theorem lw_p17 : lw_okq (⟨"StaleBoundsModel", "keepZeroFast", "()V"⟩, 17) := ⟨⟨by decide +kernel, by decide +kernel⟩, List.mem_of_getElem? (i := 540) (by decide +kernel), List.mem_of_getElem? (i := 674) (by decide +kernel), List.mem_of_getElem? (i := 675) (by decide +kernel)⟩
theorem lw_p18 : lw_okq (⟨"StaleBoundsModel", "left", "(II)I"⟩, 17) := ⟨⟨by decide +kernel, by decide +kernel⟩, List.mem_of_getElem? (i := 540) (by decide +kernel), List.mem_of_getElem? (i := 678) (by decide +kernel), List.mem_of_getElem? (i := 679) (by decide +kernel)⟩
theorem lw_p19 : lw_okq (⟨"StaleBoundsModel", "budgetCell", "(II)I"⟩, 17) := ⟨⟨by decide +kernel, by decide +kernel⟩, List.mem_of_getElem? (i := 540) (by decide +kernel), List.mem_of_getElem? (i := 682) (by decide +kernel), List.mem_of_getElem? (i := 683) (by decide +kernel)⟩
theorem lw_p20 : lw_okq (⟨"StaleBoundsModel", "owed", "(II)I"⟩, 17) := ⟨⟨by decide +kernel, by decide +kernel⟩, List.mem_of_getElem? (i := 540) (by decide +kernel), List.mem_of_getElem? (i := 686) (by decide +kernel), List.mem_of_getElem? (i := 687) (by decide +kernel)⟩
theorem lw_p21 : lw_okq (⟨"StaleBoundsModel", "acceptedBy", "(I)I"⟩, 17) := ⟨⟨by decide +kernel, by decide +kernel⟩, List.mem_of_getElem? (i := 540) (by decide +kernel), List.mem_of_getElem? (i := 690) (by decide +kernel), List.mem_of_getElem? (i := 691) (by decide +kernel)⟩
theorem lw_p22 : lw_okq (⟨"StaleBoundsModel", "sumOf", "(I)I"⟩, 17) := ⟨⟨by decide +kernel, by decide +kernel⟩, List.mem_of_getElem? (i := 540) (by decide +kernel), List.mem_of_getElem? (i := 694) (by decide +kernel), List.mem_of_getElem? (i := 695) (by decide +kernel)⟩
theorem lw_p23 : lw_okq (⟨"StaleBoundsModel", "weight", "(I)I"⟩, 17) := ⟨⟨by decide +kernel, by decide +kernel⟩, List.mem_of_getElem? (i := 540) (by decide +kernel), List.mem_of_getElem? (i := 698) (by decide +kernel), List.mem_of_getElem? (i := 699) (by decide +kernel)⟩
theorem lw_p24 : lw_okq (⟨"StaleBoundsModel", "push", "(II)V"⟩, 17) := ⟨⟨by decide +kernel, by decide +kernel⟩, List.mem_of_getElem? (i := 540) (by decide +kernel), List.mem_of_getElem? (i := 702) (by decide +kernel), List.mem_of_getElem? (i := 703) (by decide +kernel)⟩
theorem lw_p25 : lw_okq (⟨"StaleBoundsModel", "heardCell", "(II)I"⟩, 17) := ⟨⟨by decide +kernel, by decide +kernel⟩, List.mem_of_getElem? (i := 540) (by decide +kernel), List.mem_of_getElem? (i := 706) (by decide +kernel), List.mem_of_getElem? (i := 707) (by decide +kernel)⟩
theorem lw_p26 : lw_okq (⟨"StaleBoundsModel", "arePair", "(II)Z"⟩, 17) := ⟨⟨by decide +kernel, by decide +kernel⟩, List.mem_of_getElem? (i := 540) (by decide +kernel), List.mem_of_getElem? (i := 718) (by decide +kernel), List.mem_of_getElem? (i := 719) (by decide +kernel)⟩
theorem lw_p27 : lw_okq (⟨"StaleBoundsModel", "pull", "(II)V"⟩, 17) := ⟨⟨by decide +kernel, by decide +kernel⟩, List.mem_of_getElem? (i := 540) (by decide +kernel), List.mem_of_getElem? (i := 725) (by decide +kernel), List.mem_of_getElem? (i := 726) (by decide +kernel)⟩
theorem lw_p28 : lw_okq (⟨"StaleBoundsModel", "readBy", "(I)I"⟩, 17) := ⟨⟨by decide +kernel, by decide +kernel⟩, List.mem_of_getElem? (i := 540) (by decide +kernel), List.mem_of_getElem? (i := 733) (by decide +kernel), List.mem_of_getElem? (i := 734) (by decide +kernel)⟩
theorem lw_p29 : lw_okq (⟨"StaleBoundsModel", "slowCount", "(I)I"⟩, 17) := ⟨⟨by decide +kernel, by decide +kernel⟩, List.mem_of_getElem? (i := 540) (by decide +kernel), List.mem_of_getElem? (i := 737) (by decide +kernel), List.mem_of_getElem? (i := 738) (by decide +kernel)⟩
theorem lw_p30 : lw_okq (⟨"StaleBoundsModel", "readCost", "(I)I"⟩, 17) := ⟨⟨by decide +kernel, by decide +kernel⟩, List.mem_of_getElem? (i := 540) (by decide +kernel), List.mem_of_getElem? (i := 761) (by decide +kernel), List.mem_of_getElem? (i := 762) (by decide +kernel)⟩
theorem lw_p31 : lw_okq (⟨"StaleBoundsModel", "spare", "(I)I"⟩, 17) := ⟨⟨by decide +kernel, by decide +kernel⟩, List.mem_of_getElem? (i := 540) (by decide +kernel), List.mem_of_getElem? (i := 765) (by decide +kernel), List.mem_of_getElem? (i := 766) (by decide +kernel)⟩
def lw_privs_2 : List (MethodName × Nat) := [(⟨"StaleBoundsModel", "isCopy", "(I)Z"⟩, 17), (⟨"StaleBoundsModel", "keepZeroFast", "()V"⟩, 17), (⟨"StaleBoundsModel", "left", "(II)I"⟩, 17), (⟨"StaleBoundsModel", "budgetCell", "(II)I"⟩, 17), (⟨"StaleBoundsModel", "owed", "(II)I"⟩, 17), (⟨"StaleBoundsModel", "acceptedBy", "(I)I"⟩, 17), (⟨"StaleBoundsModel", "sumOf", "(I)I"⟩, 17), (⟨"StaleBoundsModel", "weight", "(I)I"⟩, 17), (⟨"StaleBoundsModel", "push", "(II)V"⟩, 17), (⟨"StaleBoundsModel", "heardCell", "(II)I"⟩, 17), (⟨"StaleBoundsModel", "arePair", "(II)Z"⟩, 17), (⟨"StaleBoundsModel", "pull", "(II)V"⟩, 17), (⟨"StaleBoundsModel", "readBy", "(I)I"⟩, 17), (⟨"StaleBoundsModel", "slowCount", "(I)I"⟩, 17), (⟨"StaleBoundsModel", "readCost", "(I)I"⟩, 17), (⟨"StaleBoundsModel", "spare", "(I)I"⟩, 17)]
theorem lw_r2 : ∀ q ∈ lw_privs_2, lw_okq q := List.forall_mem_cons.mpr ⟨lw_p16, List.forall_mem_cons.mpr ⟨lw_p17, List.forall_mem_cons.mpr ⟨lw_p18, List.forall_mem_cons.mpr ⟨lw_p19, List.forall_mem_cons.mpr ⟨lw_p20, List.forall_mem_cons.mpr ⟨lw_p21, List.forall_mem_cons.mpr ⟨lw_p22, List.forall_mem_cons.mpr ⟨lw_p23, List.forall_mem_cons.mpr ⟨lw_p24, List.forall_mem_cons.mpr ⟨lw_p25, List.forall_mem_cons.mpr ⟨lw_p26, List.forall_mem_cons.mpr ⟨lw_p27, List.forall_mem_cons.mpr ⟨lw_p28, List.forall_mem_cons.mpr ⟨lw_p29, List.forall_mem_cons.mpr ⟨lw_p30, List.forall_mem_cons.mpr ⟨lw_p31, fun _ h => absurd h List.not_mem_nil⟩⟩⟩⟩⟩⟩⟩⟩⟩⟩⟩⟩⟩⟩⟩⟩
theorem lw_p32 : lw_okq (⟨"StaleBoundsModel", "holders", "(II)I"⟩, 17) := ⟨⟨by decide +kernel, by decide +kernel⟩, List.mem_of_getElem? (i := 540) (by decide +kernel), List.mem_of_getElem? (i := 777) (by decide +kernel), List.mem_of_getElem? (i := 778) (by decide +kernel)⟩
theorem lw_p33 : lw_okq (⟨"StaleBoundsModel", "candidates", "()I"⟩, 17) := ⟨⟨by decide +kernel, by decide +kernel⟩, List.mem_of_getElem? (i := 540) (by decide +kernel), List.mem_of_getElem? (i := 797) (by decide +kernel), List.mem_of_getElem? (i := 798) (by decide +kernel)⟩
theorem lw_p34 : lw_okq (⟨"StaleBoundsModel", "property", "(II)I"⟩, 17) := ⟨⟨by decide +kernel, by decide +kernel⟩, List.mem_of_getElem? (i := 540) (by decide +kernel), List.mem_of_getElem? (i := 801) (by decide +kernel), List.mem_of_getElem? (i := 802) (by decide +kernel)⟩
theorem lw_p35 : lw_okq (⟨"StaleBoundsModel", "largestGroup", "(II)I"⟩, 17) := ⟨⟨by decide +kernel, by decide +kernel⟩, List.mem_of_getElem? (i := 540) (by decide +kernel), List.mem_of_getElem? (i := 809) (by decide +kernel), List.mem_of_getElem? (i := 810) (by decide +kernel)⟩
theorem lw_p36 : lw_okq (⟨"StaleBoundsModel", "fullCopies", "()I"⟩, 17) := ⟨⟨by decide +kernel, by decide +kernel⟩, List.mem_of_getElem? (i := 540) (by decide +kernel), List.mem_of_getElem? (i := 825) (by decide +kernel), List.mem_of_getElem? (i := 826) (by decide +kernel)⟩
def lw_privs_3 : List (MethodName × Nat) := [(⟨"StaleBoundsModel", "holders", "(II)I"⟩, 17), (⟨"StaleBoundsModel", "candidates", "()I"⟩, 17), (⟨"StaleBoundsModel", "property", "(II)I"⟩, 17), (⟨"StaleBoundsModel", "largestGroup", "(II)I"⟩, 17), (⟨"StaleBoundsModel", "fullCopies", "()I"⟩, 17)]
theorem lw_r3 : ∀ q ∈ lw_privs_3, lw_okq q := List.forall_mem_cons.mpr ⟨lw_p32, List.forall_mem_cons.mpr ⟨lw_p33, List.forall_mem_cons.mpr ⟨lw_p34, List.forall_mem_cons.mpr ⟨lw_p35, List.forall_mem_cons.mpr ⟨lw_p36, fun _ h => absurd h List.not_mem_nil⟩⟩⟩⟩⟩
def lw_privs : List (MethodName × Nat) := lw_privs_1 ++ (lw_privs_2 ++ (lw_privs_3))
def lw_tbl : List Cond := k2_sels lw_privs ++ tables_1
theorem lw_privs_ok : ∀ q ∈ lw_privs, lw_okq q := by
  show ∀ q ∈ lw_privs_1 ++ (lw_privs_2 ++ (lw_privs_3)), lw_okq q
  exact List.forall_mem_append.mpr ⟨lw_r1, List.forall_mem_append.mpr ⟨lw_r2, lw_r3⟩⟩

theorem goodIn_r {big : List Cond} (ws : List Cond) (ps : List Nat) (hp : ws = ps.filterMap (fun i => big[i]?)) (h : ws.all goodWord = true) : GoodIn big ws := by
  intro w hw
  have h1 := List.all_eq_true.mp h w hw
  rw [hp] at hw
  obtain ⟨i, -, hi⟩ := List.mem_filterMap.mp hw
  have hm : w ∈ big := by first | exact List.mem_of_getElem? hi | exact List.getElem?_mem hi
  exact ⟨hm, good_of_word h1⟩
theorem goodIn_app {big a b : List Cond} (ha : GoodIn big a) (hb : GoodIn big b) : GoodIn big (a ++ b) := fun w h => (List.mem_append.mp h).elim (ha w) (hb w)
theorem goodIn_ca {big a b : List Cond} {c : Cond} (ha : GoodIn big (c :: a)) (hb : GoodIn big b) : GoodIn big (c :: (a ++ b)) := fun w h => (List.mem_cons.mp h).elim (fun e => ha w (List.mem_cons.mpr (Or.inl e))) (fun h => (List.mem_append.mp h).elim (fun h => ha w (List.mem_cons.mpr (Or.inr h))) (hb w))
theorem goodIn_sub {big ws : List Cond} (hm : ∀ w ∈ ws, w ∈ big) (h : ws.all goodWord = true) : GoodIn big ws := fun w hw => ⟨hm w hw, good_of_word (List.all_eq_true.mp h w hw)⟩
def RX0 : String := "StaleBounds$History"
def TX0 : u_T := fun k => match k with
  | 0 => ("StaleBounds$History", "earlier", "[LStaleBounds$Ledger;", true)
  | 1 => ("StaleBounds$History", "next", "I", false)
  | _ => ("StaleBounds$History", "known", "I", false)
def tyX0 : Nat → FieldType := fun k => match k with
  | 0 => .array (.object "StaleBounds$Ledger")
  | 1 => .int
  | _ => .int
abbrev wsX00 : List Cond := u_ws RX0 TX0 3
theorem nmX0 : ∀ a, a < 3 → ∀ b, b < 3 → a ≠ b → (TX0 a).2.1 ≠ (TX0 b).2.1 := by decide +kernel
theorem tyX0_ok : ∀ k, k < 3 → parseFieldDescriptor (TX0 k).2.2.1 = some (tyX0 k) := by decide +kernel
abbrev cX0_init : ByteArray := prog_2_method_1_code
def yX0_init : MethodName := ⟨RX0, "<init>", "()V"⟩
abbrev cX0_remember : ByteArray := prog_2_method_2_code
def yX0_remember : MethodName := ⟨RX0, "remember", "(LStaleBounds$Ledger;)V"⟩
abbrev cX0_lose : ByteArray := prog_2_method_3_code
def yX0_lose : MethodName := ⟨RX0, "lose", "()V"⟩
abbrev cX0_restore : ByteArray := prog_2_method_4_code
def yX0_restore : MethodName := ⟨RX0, "restore", "(LStaleBounds$Ledger;)V"⟩
def RX1 : String := "StaleBounds$Ledger"
def TX1 : u_T := fun k => match k with
  | 0 => ("StaleBounds$Ledger", "copies", "I", false)
  | 1 => ("StaleBounds$Ledger", "time", "I", false)
  | 2 => ("StaleBounds$Ledger", "writes", "I", false)
  | 3 => ("StaleBounds$Ledger", "number", "[I", true)
  | 4 => ("StaleBounds$Ledger", "order", "[I", true)
  | 5 => ("StaleBounds$Ledger", "age", "[I", true)
  | 6 => ("StaleBounds$Ledger", "knows", "[I", true)
  | 7 => ("StaleBounds$Ledger", "fast", "[I", true)
  | 8 => ("StaleBounds$Ledger", "heard", "[I", true)
  | 9 => ("StaleBounds$Ledger", "budget", "[I", true)
  | 10 => ("StaleBounds$Ledger", "acceptedBy", "[I", true)
  | 11 => ("StaleBounds$Ledger", "acceptedAt", "[I", true)
  | _ => ("StaleBounds$Ledger", "weight", "[I", true)
def tyX1 : Nat → FieldType := fun k => match k with
  | 0 => .int
  | 1 => .int
  | 2 => .int
  | 3 => .array .int
  | 4 => .array .int
  | 5 => .array .int
  | 6 => .array .int
  | 7 => .array .int
  | 8 => .array .int
  | 9 => .array .int
  | 10 => .array .int
  | 11 => .array .int
  | _ => .array .int
abbrev wsX10 : List Cond := u_ws RX1 TX1 13
theorem nmX1 : ∀ a, a < 13 → ∀ b, b < 13 → a ≠ b → (TX1 a).2.1 ≠ (TX1 b).2.1 := by decide +kernel
theorem tyX1_ok : ∀ k, k < 13 → parseFieldDescriptor (TX1 k).2.2.1 = some (tyX1 k) := by decide +kernel
abbrev cX1_init : ByteArray := prog_3_method_1_code
def yX1_init : MethodName := ⟨RX1, "<init>", "()V"⟩
abbrev cX1_startAnew : ByteArray := prog_3_method_2_code
def yX1_startAnew : MethodName := ⟨RX1, "startAnew", "()V"⟩
abbrev cX1_takeFrom : ByteArray := prog_3_method_3_code
def yX1_takeFrom : MethodName := ⟨RX1, "takeFrom", "(LStaleBounds$Ledger;)V"⟩
abbrev cX1_setBounds : ByteArray := prog_3_method_4_code
def yX1_setBounds : MethodName := ⟨RX1, "setBounds", "(IIII)V"⟩
abbrev cX1_isBound : ByteArray := prog_3_method_5_code
def yX1_isBound : MethodName := ⟨RX1, "isBound", "(IIII)Z"⟩
abbrev cX1_splitAllNumbers : ByteArray := prog_3_method_6_code
def yX1_splitAllNumbers : MethodName := ⟨RX1, "splitAllNumbers", "()V"⟩
abbrev cX1_splitNumber : ByteArray := prog_3_method_7_code
def yX1_splitNumber : MethodName := ⟨RX1, "splitNumber", "(I)V"⟩
abbrev cX1_shareOf : ByteArray := prog_3_method_8_code
def yX1_shareOf : MethodName := ⟨RX1, "shareOf", "(III)I"⟩
abbrev cX1_allWrites : ByteArray := prog_3_method_9_code
def yX1_allWrites : MethodName := ⟨RX1, "allWrites", "()I"⟩
abbrev cX1_weightOf : ByteArray := prog_3_method_10_code
def yX1_weightOf : MethodName := ⟨RX1, "weightOf", "(I)I"⟩
abbrev cX1_writesBy : ByteArray := prog_3_method_11_code
def yX1_writesBy : MethodName := ⟨RX1, "writesBy", "(I)I"⟩
abbrev cX1_sum : ByteArray := prog_3_method_12_code
def yX1_sum : MethodName := ⟨RX1, "sum", "(I)I"⟩
abbrev cX1_lack : ByteArray := prog_3_method_13_code
def yX1_lack : MethodName := ⟨RX1, "lack", "(I)I"⟩
abbrev cX1_slow : ByteArray := prog_3_method_14_code
def yX1_slow : MethodName := ⟨RX1, "slow", "(I)I"⟩
abbrev cX1_owed : ByteArray := prog_3_method_15_code
def yX1_owed : MethodName := ⟨RX1, "owed", "(II)I"⟩
abbrev cX1_left : ByteArray := prog_3_method_16_code
def yX1_left : MethodName := ⟨RX1, "left", "(II)I"⟩
abbrev cX1_spare : ByteArray := prog_3_method_17_code
def yX1_spare : MethodName := ⟨RX1, "spare", "(I)I"⟩
abbrev cX1_copiesWith : ByteArray := prog_3_method_18_code
def yX1_copiesWith : MethodName := ⟨RX1, "copiesWith", "([II)I"⟩
abbrev cX1_pushesFor : ByteArray := prog_3_method_19_code
def yX1_pushesFor : MethodName := ⟨RX1, "pushesFor", "(II)I"⟩
abbrev cX1_accept : ByteArray := prog_3_method_20_code
def yX1_accept : MethodName := ⟨RX1, "accept", "(II)I"⟩
abbrev cX1_pushIfOver : ByteArray := prog_3_method_21_code
def yX1_pushIfOver : MethodName := ⟨RX1, "pushIfOver", "(II)Z"⟩
abbrev cX1_learn : ByteArray := prog_3_method_22_code
def yX1_learn : MethodName := ⟨RX1, "learn", "(II)V"⟩
abbrev cX1_pull : ByteArray := prog_3_method_23_code
def yX1_pull : MethodName := ⟨RX1, "pull", "(II)V"⟩
abbrev cX1_read : ByteArray := prog_3_method_24_code
def yX1_read : MethodName := ⟨RX1, "read", "(I)I"⟩
abbrev cX1_move : ByteArray := prog_3_method_25_code
def yX1_move : MethodName := ⟨RX1, "move", "(IIII)I"⟩
abbrev cX1_even : ByteArray := prog_3_method_26_code
def yX1_even : MethodName := ⟨RX1, "even", "(I)I"⟩
abbrev cX1_bindAnew : ByteArray := prog_3_method_27_code
def yX1_bindAnew : MethodName := ⟨RX1, "bindAnew", "(IIII)I"⟩
def RX2 : String := "StaleBounds$Text"
def TX2 : u_T := fun k => match k with
  | 0 => ("StaleBounds$Text", "letters", "[C", true)
  | 1 => ("StaleBounds$Text", "length", "I", false)
  | 2 => ("StaleBounds$Text", "kinds", "[I", true)
  | 3 => ("StaleBounds$Text", "starts", "[I", true)
  | 4 => ("StaleBounds$Text", "values", "[I", true)
  | _ => ("StaleBounds$Text", "token", "I", false)
def tyX2 : Nat → FieldType := fun k => match k with
  | 0 => .array .char
  | 1 => .int
  | 2 => .array .int
  | 3 => .array .int
  | 4 => .array .int
  | _ => .int
abbrev wsX20 : List Cond := u_ws RX2 TX2 6
theorem nmX2 : ∀ a, a < 6 → ∀ b, b < 6 → a ≠ b → (TX2 a).2.1 ≠ (TX2 b).2.1 := by decide +kernel
theorem tyX2_ok : ∀ k, k < 6 → parseFieldDescriptor (TX2 k).2.2.1 = some (tyX2 k) := by decide +kernel
abbrev cX2_init : ByteArray := prog_4_method_1_code
def yX2_init : MethodName := ⟨RX2, "<init>", "()V"⟩
abbrev cX2_add : ByteArray := prog_4_method_2_code
def yX2_add : MethodName := ⟨RX2, "add", "(C)V"⟩
abbrev cX2_drop : ByteArray := prog_4_method_3_code
def yX2_drop : MethodName := ⟨RX2, "drop", "()I"⟩
abbrev cX2_tellInto : ByteArray := prog_4_method_4_code
def yX2_tellInto : MethodName := ⟨RX2, "tellInto", "(LStaleBounds$Ledger;)I"⟩
abbrev cX2_tellItem : ByteArray := prog_4_method_5_code
def yX2_tellItem : MethodName := ⟨RX2, "tellItem", "(LStaleBounds$Ledger;Z)Z"⟩
abbrev cX2_tellCopies : ByteArray := prog_4_method_6_code
def yX2_tellCopies : MethodName := ⟨RX2, "tellCopies", "(LStaleBounds$Ledger;)Z"⟩
abbrev cX2_tellBounds : ByteArray := prog_4_method_7_code
def yX2_tellBounds : MethodName := ⟨RX2, "tellBounds", "(LStaleBounds$Ledger;)Z"⟩
abbrev cX2_passKind : ByteArray := prog_4_method_8_code
def yX2_passKind : MethodName := ⟨RX2, "passKind", "(I)Z"⟩
abbrev cX2_passNumber : ByteArray := prog_4_method_9_code
def yX2_passNumber : MethodName := ⟨RX2, "passNumber", "(II)Z"⟩
abbrev cX2_findTokens : ByteArray := prog_4_method_10_code
def yX2_findTokens : MethodName := ⟨RX2, "findTokens", "()V"⟩
abbrev cX2_takeToken : ByteArray := prog_4_method_11_code
def yX2_takeToken : MethodName := ⟨RX2, "takeToken", "(II)I"⟩
abbrev cX2_takeWord : ByteArray := prog_4_method_12_code
def yX2_takeWord : MethodName := ⟨RX2, "takeWord", "(II)I"⟩
abbrev cX2_spells : ByteArray := prog_4_method_13_code
def yX2_spells : MethodName := ⟨RX2, "spells", "(Ljava/lang/String;II)Z"⟩
abbrev cX2_takeFigures : ByteArray := prog_4_method_14_code
def yX2_takeFigures : MethodName := ⟨RX2, "takeFigures", "(II)I"⟩
abbrev cX2_isSmallLetter : ByteArray := prog_4_method_15_code
def yX2_isSmallLetter : MethodName := ⟨RX2, "isSmallLetter", "(C)Z"⟩
abbrev cX2_isFigure : ByteArray := prog_4_method_16_code
def yX2_isFigure : MethodName := ⟨RX2, "isFigure", "(C)Z"⟩
def RX3 : String := "StaleBounds"
def TX3 : u_T := fun k => match k with
  | 0 => ("StaleBounds", "now", "LStaleBounds$Ledger;", true)
  | 1 => ("StaleBounds", "trial", "LStaleBounds$Ledger;", true)
  | 2 => ("StaleBounds", "history", "LStaleBounds$History;", true)
  | 3 => ("StaleBounds", "text", "LStaleBounds$Text;", true)
  | 4 => ("StaleBounds", "images", "[LStaleBounds$Ledger;", true)
  | 5 => ("StaleBounds", "kept", "[Z", true)
  | 6 => ("StaleBounds", "seenWhat", "[I", true)
  | 7 => ("StaleBounds", "seenNumber", "[I", true)
  | 8 => ("StaleBounds", "seen", "I", false)
  | _ => ("StaleBounds", "answers", "[I", true)
def tyX3 : Nat → FieldType := fun k => match k with
  | 0 => .object "StaleBounds$Ledger"
  | 1 => .object "StaleBounds$Ledger"
  | 2 => .object "StaleBounds$History"
  | 3 => .object "StaleBounds$Text"
  | 4 => .array (.object "StaleBounds$Ledger")
  | 5 => .array .boolean
  | 6 => .array .int
  | 7 => .array .int
  | 8 => .int
  | _ => .array .int
abbrev wsX30 : List Cond := u_ws RX3 TX3 10
theorem nmX3 : ∀ a, a < 10 → ∀ b, b < 10 → a ≠ b → (TX3 a).2.1 ≠ (TX3 b).2.1 := by decide +kernel
theorem tyX3_ok : ∀ k, k < 10 → parseFieldDescriptor (TX3 k).2.2.1 = some (tyX3 k) := by decide +kernel
abbrev cX3_init : ByteArray := prog_1_method_1_code
def yX3_init : MethodName := ⟨RX3, "<init>", "()V"⟩
abbrev cX3_type : ByteArray := prog_1_method_2_code
def yX3_type : MethodName := ⟨RX3, "type", "(I)I"⟩
abbrev cX3_clear : ByteArray := prog_1_method_3_code
def yX3_clear : MethodName := ⟨RX3, "clear", "()I"⟩
abbrev cX3_tells : ByteArray := prog_1_method_4_code
def yX3_tells : MethodName := ⟨RX3, "tells", "()I"⟩
abbrev cX3_accepts : ByteArray := prog_1_method_5_code
def yX3_accepts : MethodName := ⟨RX3, "accepts", "(II)I"⟩
abbrev cX3_passes : ByteArray := prog_1_method_6_code
def yX3_passes : MethodName := ⟨RX3, "passes", "(I)I"⟩
abbrev cX3_pulls : ByteArray := prog_1_method_7_code
def yX3_pulls : MethodName := ⟨RX3, "pulls", "(II)I"⟩
abbrev cX3_reads : ByteArray := prog_1_method_8_code
def yX3_reads : MethodName := ⟨RX3, "reads", "(I)I"⟩
abbrev cX3_moves : ByteArray := prog_1_method_9_code
def yX3_moves : MethodName := ⟨RX3, "moves", "(IIII)I"⟩
abbrev cX3_evens : ByteArray := prog_1_method_10_code
def yX3_evens : MethodName := ⟨RX3, "evens", "(I)I"⟩
abbrev cX3_bounds : ByteArray := prog_1_method_11_code
def yX3_bounds : MethodName := ⟨RX3, "bounds", "(IIII)I"⟩
abbrev cX3_undo : ByteArray := prog_1_method_12_code
def yX3_undo : MethodName := ⟨RX3, "undo", "()I"⟩
abbrev cX3_copy : ByteArray := prog_1_method_13_code
def yX3_copy : MethodName := ⟨RX3, "copy", "(II)I"⟩
abbrev cX3_pair : ByteArray := prog_1_method_14_code
def yX3_pair : MethodName := ⟨RX3, "pair", "(III)I"⟩
abbrev cX3_write : ByteArray := prog_1_method_15_code
def yX3_write : MethodName := ⟨RX3, "write", "(II)I"⟩
abbrev cX3_costs : ByteArray := prog_1_method_16_code
def yX3_costs : MethodName := ⟨RX3, "costs", "(II)I"⟩
abbrev cX3_sees : ByteArray := prog_1_method_17_code
def yX3_sees : MethodName := ⟨RX3, "sees", "(II)I"⟩
abbrev cX3_forget : ByteArray := prog_1_method_18_code
def yX3_forget : MethodName := ⟨RX3, "forget", "()I"⟩
abbrev cX3_which : ByteArray := prog_1_method_19_code
def yX3_which : MethodName := ⟨RX3, "which", "()I"⟩
abbrev cX3_ask : ByteArray := prog_1_method_20_code
def yX3_ask : MethodName := ⟨RX3, "ask", "()I"⟩
abbrev cX3_keep : ByteArray := prog_1_method_21_code
def yX3_keep : MethodName := ⟨RX3, "keep", "(I)I"⟩
abbrev cX3_back : ByteArray := prog_1_method_22_code
def yX3_back : MethodName := ⟨RX3, "back", "(I)I"⟩
abbrev cX3_count : ByteArray := prog_1_method_23_code
def yX3_count : MethodName := ⟨RX3, "count", "(I)I"⟩
abbrev cX3_isCopy : ByteArray := prog_1_method_24_code
def yX3_isCopy : MethodName := ⟨RX3, "isCopy", "(I)Z"⟩
abbrev cX3_arePair : ByteArray := prog_1_method_25_code
def yX3_arePair : MethodName := ⟨RX3, "arePair", "(II)Z"⟩
abbrev cX3_answerOf : ByteArray := prog_1_method_26_code
def yX3_answerOf : MethodName := ⟨RX3, "answerOf", "(II)I"⟩
abbrev cX3_fitsAllSeen : ByteArray := prog_1_method_27_code
def yX3_fitsAllSeen : MethodName := ⟨RX3, "fitsAllSeen", "(I)Z"⟩
abbrev cX3_mostAlike : ByteArray := prog_1_method_28_code
def yX3_mostAlike : MethodName := ⟨RX3, "mostAlike", "(II)I"⟩
abbrev cX3_alikeWith : ByteArray := prog_1_method_29_code
def yX3_alikeWith : MethodName := ⟨RX3, "alikeWith", "(II)I"⟩
abbrev cX3_hasBit : ByteArray := prog_1_method_30_code
def yX3_hasBit : MethodName := ⟨RX3, "hasBit", "(II)Z"⟩
abbrev cX3_slot : ByteArray := prog_1_method_31_code
def yX3_slot : MethodName := ⟨RX3, "slot", "(II)I"⟩
def RX4 : String := "StaleBoundsModel"
def TX4 : u_T := fun k => match k with
  | 0 => ("StaleBoundsModel", "now", "[I", true)
  | 1 => ("StaleBoundsModel", "read", "[I", true)
  | 2 => ("StaleBoundsModel", "saved", "[I", true)
  | 3 => ("StaleBoundsModel", "history", "[I", true)
  | 4 => ("StaleBoundsModel", "historySize", "I", false)
  | 5 => ("StaleBoundsModel", "images", "[I", true)
  | 6 => ("StaleBoundsModel", "hasImage", "[Z", true)
  | 7 => ("StaleBoundsModel", "text", "[I", true)
  | 8 => ("StaleBoundsModel", "length", "I", false)
  | 9 => ("StaleBoundsModel", "at", "I", false)
  | 10 => ("StaleBoundsModel", "token", "I", false)
  | 11 => ("StaleBoundsModel", "tokenAt", "I", false)
  | 12 => ("StaleBoundsModel", "value", "I", false)
  | 13 => ("StaleBoundsModel", "factKind", "[I", true)
  | 14 => ("StaleBoundsModel", "factValue", "[I", true)
  | 15 => ("StaleBoundsModel", "facts", "I", false)
  | _ => ("StaleBoundsModel", "items", "I", false)
def tyX4 : Nat → FieldType := fun k => match k with
  | 0 => .array .int
  | 1 => .array .int
  | 2 => .array .int
  | 3 => .array .int
  | 4 => .int
  | 5 => .array .int
  | 6 => .array .boolean
  | 7 => .array .int
  | 8 => .int
  | 9 => .int
  | 10 => .int
  | 11 => .int
  | 12 => .int
  | 13 => .array .int
  | 14 => .array .int
  | 15 => .int
  | _ => .int
abbrev wsX40 : List Cond := u_ws RX4 TX4 17
theorem nmX4 : ∀ a, a < 17 → ∀ b, b < 17 → a ≠ b → (TX4 a).2.1 ≠ (TX4 b).2.1 := by decide +kernel
theorem tyX4_ok : ∀ k, k < 17 → parseFieldDescriptor (TX4 k).2.2.1 = some (tyX4 k) := by decide +kernel
abbrev cX4_init : ByteArray := prog_6_method_1_code
def yX4_init : MethodName := ⟨RX4, "<init>", "()V"⟩
abbrev cX4_in : ByteArray := prog_6_method_2_code
def yX4_in : MethodName := ⟨RX4, "in", "(III)Z"⟩
abbrev cX4_copyState : ByteArray := prog_6_method_3_code
def yX4_copyState : MethodName := ⟨RX4, "copyState", "([II[II)V"⟩
abbrev cX4_save : ByteArray := prog_6_method_4_code
def yX4_save : MethodName := ⟨RX4, "save", "()V"⟩
abbrev cX4_beginRead : ByteArray := prog_6_method_5_code
def yX4_beginRead : MethodName := ⟨RX4, "beginRead", "()V"⟩
abbrev cX4_setBudgetsFor : ByteArray := prog_6_method_6_code
def yX4_setBudgetsFor : MethodName := ⟨RX4, "setBudgetsFor", "([II)V"⟩
abbrev cX4_setBudgets : ByteArray := prog_6_method_7_code
def yX4_setBudgets : MethodName := ⟨RX4, "setBudgets", "([I)V"⟩
abbrev cX4_isLetter : ByteArray := prog_6_method_8_code
def yX4_isLetter : MethodName := ⟨RX4, "isLetter", "()Z"⟩
abbrev cX4_isDigit : ByteArray := prog_6_method_9_code
def yX4_isDigit : MethodName := ⟨RX4, "isDigit", "()Z"⟩
abbrev cX4_wordToken : ByteArray := prog_6_method_10_code
def yX4_wordToken : MethodName := ⟨RX4, "wordToken", "()I"⟩
abbrev cX4_next : ByteArray := prog_6_method_11_code
def yX4_next : MethodName := ⟨RX4, "next", "()V"⟩
abbrev cX4_readNumber : ByteArray := prog_6_method_12_code
def yX4_readNumber : MethodName := ⟨RX4, "readNumber", "(II)Z"⟩
abbrev cX4_readBounds : ByteArray := prog_6_method_13_code
def yX4_readBounds : MethodName := ⟨RX4, "readBounds", "()Z"⟩
abbrev cX4_readItem : ByteArray := prog_6_method_14_code
def yX4_readItem : MethodName := ⟨RX4, "readItem", "(Z)Z"⟩
abbrev cX4_parse : ByteArray := prog_6_method_15_code
def yX4_parse : MethodName := ⟨RX4, "parse", "()I"⟩
abbrev cX4_type : ByteArray := prog_6_method_16_code
def yX4_type : MethodName := ⟨RX4, "type", "(I)I"⟩
abbrev cX4_clear : ByteArray := prog_6_method_17_code
def yX4_clear : MethodName := ⟨RX4, "clear", "()I"⟩
abbrev cX4_tells : ByteArray := prog_6_method_18_code
def yX4_tells : MethodName := ⟨RX4, "tells", "()I"⟩
abbrev cX4_isCopy : ByteArray := prog_6_method_19_code
def yX4_isCopy : MethodName := ⟨RX4, "isCopy", "(I)Z"⟩
abbrev cX4_arePair : ByteArray := prog_6_method_20_code
def yX4_arePair : MethodName := ⟨RX4, "arePair", "(II)Z"⟩
abbrev cX4_weight : ByteArray := prog_6_method_21_code
def yX4_weight : MethodName := ⟨RX4, "weight", "(I)I"⟩
abbrev cX4_countBits : ByteArray := prog_6_method_22_code
def yX4_countBits : MethodName := ⟨RX4, "countBits", "(I)I"⟩
abbrev cX4_acceptedBy : ByteArray := prog_6_method_23_code
def yX4_acceptedBy : MethodName := ⟨RX4, "acceptedBy", "(I)I"⟩
abbrev cX4_sumOf : ByteArray := prog_6_method_24_code
def yX4_sumOf : MethodName := ⟨RX4, "sumOf", "(I)I"⟩
abbrev cX4_owed : ByteArray := prog_6_method_25_code
def yX4_owed : MethodName := ⟨RX4, "owed", "(II)I"⟩
abbrev cX4_budgetCell : ByteArray := prog_6_method_26_code
def yX4_budgetCell : MethodName := ⟨RX4, "budgetCell", "(II)I"⟩
abbrev cX4_heardCell : ByteArray := prog_6_method_27_code
def yX4_heardCell : MethodName := ⟨RX4, "heardCell", "(II)I"⟩
abbrev cX4_left : ByteArray := prog_6_method_28_code
def yX4_left : MethodName := ⟨RX4, "left", "(II)I"⟩
abbrev cX4_slowCount : ByteArray := prog_6_method_29_code
def yX4_slowCount : MethodName := ⟨RX4, "slowCount", "(I)I"⟩
abbrev cX4_keepZeroFast : ByteArray := prog_6_method_30_code
def yX4_keepZeroFast : MethodName := ⟨RX4, "keepZeroFast", "()V"⟩
abbrev cX4_push : ByteArray := prog_6_method_31_code
def yX4_push : MethodName := ⟨RX4, "push", "(II)V"⟩
abbrev cX4_pull : ByteArray := prog_6_method_32_code
def yX4_pull : MethodName := ⟨RX4, "pull", "(II)V"⟩
abbrev cX4_readBy : ByteArray := prog_6_method_33_code
def yX4_readBy : MethodName := ⟨RX4, "readBy", "(I)I"⟩
abbrev cX4_readCost : ByteArray := prog_6_method_34_code
def yX4_readCost : MethodName := ⟨RX4, "readCost", "(I)I"⟩
abbrev cX4_accepts : ByteArray := prog_6_method_35_code
def yX4_accepts : MethodName := ⟨RX4, "accepts", "(II)I"⟩
abbrev cX4_passes : ByteArray := prog_6_method_36_code
def yX4_passes : MethodName := ⟨RX4, "passes", "(I)I"⟩
abbrev cX4_pulls : ByteArray := prog_6_method_37_code
def yX4_pulls : MethodName := ⟨RX4, "pulls", "(II)I"⟩
abbrev cX4_reads : ByteArray := prog_6_method_38_code
def yX4_reads : MethodName := ⟨RX4, "reads", "(I)I"⟩
abbrev cX4_moves : ByteArray := prog_6_method_39_code
def yX4_moves : MethodName := ⟨RX4, "moves", "(IIII)I"⟩
abbrev cX4_evens : ByteArray := prog_6_method_40_code
def yX4_evens : MethodName := ⟨RX4, "evens", "(I)I"⟩
abbrev cX4_bounds : ByteArray := prog_6_method_41_code
def yX4_bounds : MethodName := ⟨RX4, "bounds", "(IIII)I"⟩
abbrev cX4_undo : ByteArray := prog_6_method_42_code
def yX4_undo : MethodName := ⟨RX4, "undo", "()I"⟩
abbrev cX4_spare : ByteArray := prog_6_method_43_code
def yX4_spare : MethodName := ⟨RX4, "spare", "(I)I"⟩
abbrev cX4_copy : ByteArray := prog_6_method_44_code
def yX4_copy : MethodName := ⟨RX4, "copy", "(II)I"⟩
abbrev cX4_pair : ByteArray := prog_6_method_45_code
def yX4_pair : MethodName := ⟨RX4, "pair", "(III)I"⟩
abbrev cX4_holders : ByteArray := prog_6_method_46_code
def yX4_holders : MethodName := ⟨RX4, "holders", "(II)I"⟩
abbrev cX4_write : ByteArray := prog_6_method_47_code
def yX4_write : MethodName := ⟨RX4, "write", "(II)I"⟩
abbrev cX4_costs : ByteArray := prog_6_method_48_code
def yX4_costs : MethodName := ⟨RX4, "costs", "(II)I"⟩
abbrev cX4_sees : ByteArray := prog_6_method_49_code
def yX4_sees : MethodName := ⟨RX4, "sees", "(II)I"⟩
abbrev cX4_forget : ByteArray := prog_6_method_50_code
def yX4_forget : MethodName := ⟨RX4, "forget", "()I"⟩
abbrev cX4_property : ByteArray := prog_6_method_51_code
def yX4_property : MethodName := ⟨RX4, "property", "(II)I"⟩
abbrev cX4_candidates : ByteArray := prog_6_method_52_code
def yX4_candidates : MethodName := ⟨RX4, "candidates", "()I"⟩
abbrev cX4_which : ByteArray := prog_6_method_53_code
def yX4_which : MethodName := ⟨RX4, "which", "()I"⟩
abbrev cX4_largestGroup : ByteArray := prog_6_method_54_code
def yX4_largestGroup : MethodName := ⟨RX4, "largestGroup", "(II)I"⟩
abbrev cX4_ask : ByteArray := prog_6_method_55_code
def yX4_ask : MethodName := ⟨RX4, "ask", "()I"⟩
abbrev cX4_keep : ByteArray := prog_6_method_56_code
def yX4_keep : MethodName := ⟨RX4, "keep", "(I)I"⟩
abbrev cX4_back : ByteArray := prog_6_method_57_code
def yX4_back : MethodName := ⟨RX4, "back", "(I)I"⟩
abbrev cX4_fullCopies : ByteArray := prog_6_method_58_code
def yX4_fullCopies : MethodName := ⟨RX4, "fullCopies", "()I"⟩
abbrev cX4_count : ByteArray := prog_6_method_59_code
def yX4_count : MethodName := ⟨RX4, "count", "(I)I"⟩
def RJx145de : String := "java/io/Serializable"
def TJx145de : u_T := fun k => match k with
  | _ => ("", "", "", false)
def tyJx145de : Nat → FieldType := fun k => match k with
  | _ => .int
abbrev wsJx145de0 : List Cond := u_ws RJx145de TJx145de 0
theorem nmJx145de : ∀ a, a < 0 → ∀ b, b < 0 → a ≠ b → (TJx145de a).2.1 ≠ (TJx145de b).2.1 := by decide +kernel
theorem tyJx145de_ok : ∀ k, k < 0 → parseFieldDescriptor (TJx145de k).2.2.1 = some (tyJx145de k) := by decide +kernel
def RJx9f9b0 : String := "java/lang/CharSequence"
def TJx9f9b0 : u_T := fun k => match k with
  | _ => ("", "", "", false)
def tyJx9f9b0 : Nat → FieldType := fun k => match k with
  | _ => .int
abbrev wsJx9f9b00 : List Cond := u_ws RJx9f9b0 TJx9f9b0 0
theorem nmJx9f9b0 : ∀ a, a < 0 → ∀ b, b < 0 → a ≠ b → (TJx9f9b0 a).2.1 ≠ (TJx9f9b0 b).2.1 := by decide +kernel
theorem tyJx9f9b0_ok : ∀ k, k < 0 → parseFieldDescriptor (TJx9f9b0 k).2.2.1 = some (tyJx9f9b0 k) := by decide +kernel
def RJxb160c : String := "java/lang/Comparable"
def TJxb160c : u_T := fun k => match k with
  | _ => ("", "", "", false)
def tyJxb160c : Nat → FieldType := fun k => match k with
  | _ => .int
abbrev wsJxb160c0 : List Cond := u_ws RJxb160c TJxb160c 0
theorem nmJxb160c : ∀ a, a < 0 → ∀ b, b < 0 → a ≠ b → (TJxb160c a).2.1 ≠ (TJxb160c b).2.1 := by decide +kernel
theorem tyJxb160c_ok : ∀ k, k < 0 → parseFieldDescriptor (TJxb160c k).2.2.1 = some (tyJxb160c k) := by decide +kernel
def RJ6 : String := "java/lang/Integer"
def TJ6 : u_T := fun k => match k with
  | _ => ("", "", "", false)
def tyJ6 : Nat → FieldType := fun k => match k with
  | _ => .int
abbrev wsJ60 : List Cond := u_ws RJ6 TJ6 0
theorem nmJ6 : ∀ a, a < 0 → ∀ b, b < 0 → a ≠ b → (TJ6 a).2.1 ≠ (TJ6 b).2.1 := by decide +kernel
theorem tyJ6_ok : ∀ k, k < 0 → parseFieldDescriptor (TJ6 k).2.2.1 = some (tyJ6 k) := by decide +kernel
abbrev cJ6_bitCount_0f7a4 : ByteArray := prog_7_method_49_code
def yJ6_bitCount_0f7a4 : MethodName := ⟨RJ6, "bitCount", "(I)I"⟩
def RJ9 : String := "java/lang/Math"
def TJ9 : u_T := fun k => match k with
  | _ => ("", "", "", false)
def tyJ9 : Nat → FieldType := fun k => match k with
  | _ => .int
abbrev wsJ90 : List Cond := u_ws RJ9 TJ9 0
theorem nmJ9 : ∀ a, a < 0 → ∀ b, b < 0 → a ≠ b → (TJ9 a).2.1 ≠ (TJ9 b).2.1 := by decide +kernel
theorem tyJ9_ok : ∀ k, k < 0 → parseFieldDescriptor (TJ9 k).2.2.1 = some (tyJ9 k) := by decide +kernel
abbrev cJ9_max_7cf53 : ByteArray := prog_8_method_65_code
def yJ9_max_7cf53 : MethodName := ⟨RJ9, "max", "(II)I"⟩
abbrev cJ9_min_7cf53 : ByteArray := prog_8_method_69_code
def yJ9_min_7cf53 : MethodName := ⟨RJ9, "min", "(II)I"⟩
def RJ0 : String := "java/lang/String"
def TJ0 : u_T := fun k => match k with
  | _ => ("", "", "", false)
def tyJ0 : Nat → FieldType := fun k => match k with
  | _ => .int
abbrev wsJ00 : List Cond := u_ws RJ0 TJ0 0
theorem nmJ0 : ∀ a, a < 0 → ∀ b, b < 0 → a ≠ b → (TJ0 a).2.1 ≠ (TJ0 b).2.1 := by decide +kernel
theorem tyJ0_ok : ∀ k, k < 0 → parseFieldDescriptor (TJ0 k).2.2.1 = some (tyJ0 k) := by decide +kernel
abbrev cJ0_length_8abf5 : ByteArray := prog_9_method_54_code
def yJ0_length_8abf5 : MethodName := ⟨RJ0, "length", "()I"⟩
abbrev cJ0_charAt_5068e : ByteArray := prog_9_method_56_code
def yJ0_charAt_5068e : MethodName := ⟨RJ0, "charAt", "(I)C"⟩
abbrev cJ0_coder_7d493 : ByteArray := prog_9_method_152_code
def yJ0_coder_7d493 : MethodName := ⟨RJ0, "coder", "()B"⟩
abbrev cJ0_isLatin1_aae02 : ByteArray := prog_9_method_154_code
def yJ0_isLatin1_aae02 : MethodName := ⟨RJ0, "isLatin1", "()Z"⟩
abbrev cJ0_checkIndex_df160 : ByteArray := prog_9_method_155_code
def yJ0_checkIndex_df160 : MethodName := ⟨RJ0, "checkIndex", "(II)V"⟩
def RJ1 : String := "java/lang/StringLatin1"
def TJ1 : u_T := fun k => match k with
  | _ => ("", "", "", false)
def tyJ1 : Nat → FieldType := fun k => match k with
  | _ => .int
abbrev wsJ10 : List Cond := u_ws RJ1 TJ1 0
theorem nmJ1 : ∀ a, a < 0 → ∀ b, b < 0 → a ≠ b → (TJ1 a).2.1 ≠ (TJ1 b).2.1 := by decide +kernel
theorem tyJ1_ok : ∀ k, k < 0 → parseFieldDescriptor (TJ1 k).2.2.1 = some (tyJ1 k) := by decide +kernel
abbrev cJ1_charAt_3b067 : ByteArray := prog_10_method_2_code
def yJ1_charAt_3b067 : MethodName := ⟨RJ1, "charAt", "([BI)C"⟩
def RJ2 : String := "java/lang/StringUTF16"
def TJ2 : u_T := fun k => match k with
  | _ => ("", "", "", false)
def tyJ2 : Nat → FieldType := fun k => match k with
  | _ => .int
abbrev wsJ20 : List Cond := u_ws RJ2 TJ2 0
theorem nmJ2 : ∀ a, a < 0 → ∀ b, b < 0 → a ≠ b → (TJ2 a).2.1 ≠ (TJ2 b).2.1 := by decide +kernel
theorem tyJ2_ok : ∀ k, k < 0 → parseFieldDescriptor (TJ2 k).2.2.1 = some (tyJ2 k) := by decide +kernel
abbrev cJ2_getChar_3b067 : ByteArray := prog_11_method_5_code
def yJ2_getChar_3b067 : MethodName := ⟨RJ2, "getChar", "([BI)C"⟩
abbrev cJ2_length_9d52b : ByteArray := prog_11_method_6_code
def yJ2_length_9d52b : MethodName := ⟨RJ2, "length", "([B)I"⟩
abbrev cJ2_charAt_3b067 : ByteArray := prog_11_method_83_code
def yJ2_charAt_3b067 : MethodName := ⟨RJ2, "charAt", "([BI)C"⟩
abbrev cJ2_checkIndex_2214a : ByteArray := prog_11_method_91_code
def yJ2_checkIndex_2214a : MethodName := ⟨RJ2, "checkIndex", "(I[B)V"⟩
def RJ10 : String := "java/lang/System"
def TJ10 : u_T := fun k => match k with
  | _ => ("", "", "", false)
def tyJ10 : Nat → FieldType := fun k => match k with
  | _ => .int
abbrev wsJ100 : List Cond := u_ws RJ10 TJ10 0
theorem nmJ10 : ∀ a, a < 0 → ∀ b, b < 0 → a ≠ b → (TJ10 a).2.1 ≠ (TJ10 b).2.1 := by decide +kernel
theorem tyJ10_ok : ∀ k, k < 0 → parseFieldDescriptor (TJ10 k).2.2.1 = some (tyJ10 k) := by decide +kernel
def RJxfd54e : String := "java/lang/constant/Constable"
def TJxfd54e : u_T := fun k => match k with
  | _ => ("", "", "", false)
def tyJxfd54e : Nat → FieldType := fun k => match k with
  | _ => .int
abbrev wsJxfd54e0 : List Cond := u_ws RJxfd54e TJxfd54e 0
theorem nmJxfd54e : ∀ a, a < 0 → ∀ b, b < 0 → a ≠ b → (TJxfd54e a).2.1 ≠ (TJxfd54e b).2.1 := by decide +kernel
theorem tyJxfd54e_ok : ∀ k, k < 0 → parseFieldDescriptor (TJxfd54e k).2.2.1 = some (tyJxfd54e k) := by decide +kernel
def RJx3cf43 : String := "java/lang/constant/ConstantDesc"
def TJx3cf43 : u_T := fun k => match k with
  | _ => ("", "", "", false)
def tyJx3cf43 : Nat → FieldType := fun k => match k with
  | _ => .int
abbrev wsJx3cf430 : List Cond := u_ws RJx3cf43 TJx3cf43 0
theorem nmJx3cf43 : ∀ a, a < 0 → ∀ b, b < 0 → a ≠ b → (TJx3cf43 a).2.1 ≠ (TJx3cf43 b).2.1 := by decide +kernel
theorem tyJx3cf43_ok : ∀ k, k < 0 → parseFieldDescriptor (TJx3cf43 k).2.2.1 = some (tyJx3cf43 k) := by decide +kernel
def RJ7 : String := "java/util/Arrays"
def TJ7 : u_T := fun k => match k with
  | _ => ("", "", "", false)
def tyJ7 : Nat → FieldType := fun k => match k with
  | _ => .int
abbrev wsJ70 : List Cond := u_ws RJ7 TJ7 0
theorem nmJ7 : ∀ a, a < 0 → ∀ b, b < 0 → a ≠ b → (TJ7 a).2.1 ≠ (TJ7 b).2.1 := by decide +kernel
theorem tyJ7_ok : ∀ k, k < 0 → parseFieldDescriptor (TJ7 k).2.2.1 = some (tyJ7 k) := by decide +kernel
abbrev cJ7_fill_53178 : ByteArray := prog_13_method_103_code
def yJ7_fill_53178 : MethodName := ⟨RJ7, "fill", "([II)V"⟩
def RJ3 : String := "jdk/internal/util/Preconditions"
def TJ3 : u_T := fun k => match k with
  | _ => ("", "", "", false)
def tyJ3 : Nat → FieldType := fun k => match k with
  | _ => .int
abbrev wsJ30 : List Cond := u_ws RJ3 TJ3 0
theorem nmJ3 : ∀ a, a < 0 → ∀ b, b < 0 → a ≠ b → (TJ3 a).2.1 ≠ (TJ3 b).2.1 := by decide +kernel
theorem tyJ3_ok : ∀ k, k < 0 → parseFieldDescriptor (TJ3 k).2.2.1 = some (tyJ3 k) := by decide +kernel
abbrev cJ3_checkIndex_8e157 : ByteArray := prog_14_method_11_code
def yJ3_checkIndex_8e157 : MethodName := ⟨RJ3, "checkIndex", "(IILjava/util/function/BiFunction;)I"⟩
def RL : String := "StaleBoundsLaw"
abbrev cL_law : ByteArray := code
def yL_law : MethodName := ⟨RL, "law", "([I)Z"⟩
abbrev vwCl : List vw_C := [(RX0, TX0, 3), (RX1, TX1, 13), (RX2, TX2, 6), (RX3, TX3, 10), (RX4, TX4, 17)]
/-- the tables, but for the words that may not be carried into a call -/
def tb : List Cond := lw_tbl.filter goodWord
theorem tb_in : ∀ w ∈ tb, w ∈ lw_tbl := fun _ h => (List.mem_filter.mp h).1
theorem tb_good : GoodIn tb tb := fun _ h => ⟨h, good_of_word (List.mem_filter.mp h).2⟩
end
section
theorem dX0_init_0 : decode cX0_init 0 = .ok (.aload_n 0, 1) := by decide +kernel
theorem dX0_init_1 : decode cX0_init 1 = .ok (.invokespecial 3, 3) := by decide +kernel
theorem dX0_init_4 : decode cX0_init 4 = .ok (.aload_n 0, 1) := by decide +kernel
theorem dX0_init_5 : decode cX0_init 5 = .ok (.bipush 8, 2) := by decide +kernel
theorem dX0_init_7 : decode cX0_init 7 = .ok (.anewarray 9, 3) := by decide +kernel
theorem dX0_init_10 : decode cX0_init 10 = .ok (.putfield 11, 3) := by decide +kernel
theorem dX0_init_13 : decode cX0_init 13 = .ok (.aload_n 0, 1) := by decide +kernel
theorem dX0_init_14 : decode cX0_init 14 = .ok (.iconst 0, 1) := by decide +kernel
theorem dX0_init_15 : decode cX0_init 15 = .ok (.putfield 17, 3) := by decide +kernel
theorem dX0_init_18 : decode cX0_init 18 = .ok (.aload_n 0, 1) := by decide +kernel
theorem dX0_init_19 : decode cX0_init 19 = .ok (.iconst 0, 1) := by decide +kernel
theorem dX0_init_20 : decode cX0_init 20 = .ok (.putfield 21, 3) := by decide +kernel
theorem dX0_init_23 : decode cX0_init 23 = .ok (.iconst 0, 1) := by decide +kernel
theorem dX0_init_24 : decode cX0_init 24 = .ok (.istore_n 1, 1) := by decide +kernel
theorem dX0_init_25 : decode cX0_init 25 = .ok (.iload_n 1, 1) := by decide +kernel
theorem dX0_init_26 : decode cX0_init 26 = .ok (.bipush 8, 2) := by decide +kernel
theorem dX0_init_28 : decode cX0_init 28 = .ok (.if_icmp .ge 22, 3) := by decide +kernel
theorem dX0_init_31 : decode cX0_init 31 = .ok (.aload_n 0, 1) := by decide +kernel
theorem dX0_init_32 : decode cX0_init 32 = .ok (.getfield 11, 3) := by decide +kernel
theorem dX0_init_35 : decode cX0_init 35 = .ok (.iload_n 1, 1) := by decide +kernel
theorem dX0_init_36 : decode cX0_init 36 = .ok (.new 9, 3) := by decide +kernel
theorem dX0_init_39 : decode cX0_init 39 = .ok (.dup, 1) := by decide +kernel
theorem dX0_init_40 : decode cX0_init 40 = .ok (.invokespecial 24, 3) := by decide +kernel
theorem dX0_init_43 : decode cX0_init 43 = .ok (.aastore, 1) := by decide +kernel
theorem dX0_init_44 : decode cX0_init 44 = .ok (.iinc 1 1, 3) := by decide +kernel
theorem dX0_init_47 : decode cX0_init 47 = .ok (.goto (-22), 3) := by decide +kernel
theorem dX0_init_50 : decode cX0_init 50 = .ok (.return_, 1) := by decide +kernel
theorem dX0_remember_0 : decode cX0_remember 0 = .ok (.aload_n 0, 1) := by decide +kernel
theorem dX0_remember_1 : decode cX0_remember 1 = .ok (.getfield 11, 3) := by decide +kernel
theorem dX0_remember_4 : decode cX0_remember 4 = .ok (.aload_n 0, 1) := by decide +kernel
theorem dX0_remember_5 : decode cX0_remember 5 = .ok (.getfield 17, 3) := by decide +kernel
theorem dX0_remember_8 : decode cX0_remember 8 = .ok (.aaload, 1) := by decide +kernel
theorem dX0_remember_9 : decode cX0_remember 9 = .ok (.aload_n 1, 1) := by decide +kernel
theorem dX0_remember_10 : decode cX0_remember 10 = .ok (.invokevirtual 25, 3) := by decide +kernel
theorem dX0_remember_13 : decode cX0_remember 13 = .ok (.aload_n 0, 1) := by decide +kernel
theorem dX0_remember_14 : decode cX0_remember 14 = .ok (.aload_n 0, 1) := by decide +kernel
theorem dX0_remember_15 : decode cX0_remember 15 = .ok (.getfield 17, 3) := by decide +kernel
theorem dX0_remember_18 : decode cX0_remember 18 = .ok (.iconst 1, 1) := by decide +kernel
theorem dX0_remember_19 : decode cX0_remember 19 = .ok (.iadd, 1) := by decide +kernel
theorem dX0_remember_20 : decode cX0_remember 20 = .ok (.bipush 8, 2) := by decide +kernel
theorem dX0_remember_22 : decode cX0_remember 22 = .ok (.if_icmp .ge 12, 3) := by decide +kernel
theorem dX0_remember_25 : decode cX0_remember 25 = .ok (.aload_n 0, 1) := by decide +kernel
theorem dX0_remember_26 : decode cX0_remember 26 = .ok (.getfield 17, 3) := by decide +kernel
theorem dX0_remember_29 : decode cX0_remember 29 = .ok (.iconst 1, 1) := by decide +kernel
theorem dX0_remember_30 : decode cX0_remember 30 = .ok (.iadd, 1) := by decide +kernel
theorem dX0_remember_31 : decode cX0_remember 31 = .ok (.goto 4, 3) := by decide +kernel
theorem dX0_remember_34 : decode cX0_remember 34 = .ok (.iconst 0, 1) := by decide +kernel
theorem dX0_remember_35 : decode cX0_remember 35 = .ok (.putfield 17, 3) := by decide +kernel
theorem dX0_remember_38 : decode cX0_remember 38 = .ok (.aload_n 0, 1) := by decide +kernel
theorem dX0_remember_39 : decode cX0_remember 39 = .ok (.aload_n 0, 1) := by decide +kernel
theorem dX0_remember_40 : decode cX0_remember 40 = .ok (.getfield 21, 3) := by decide +kernel
theorem dX0_remember_43 : decode cX0_remember 43 = .ok (.iconst 1, 1) := by decide +kernel
theorem dX0_remember_44 : decode cX0_remember 44 = .ok (.iadd, 1) := by decide +kernel
theorem dX0_remember_45 : decode cX0_remember 45 = .ok (.bipush 8, 2) := by decide +kernel
theorem dX0_remember_47 : decode cX0_remember 47 = .ok (.invokestatic 29, 3) := by decide +kernel
theorem dX0_remember_50 : decode cX0_remember 50 = .ok (.putfield 21, 3) := by decide +kernel
theorem dX0_remember_53 : decode cX0_remember 53 = .ok (.return_, 1) := by decide +kernel
theorem dX0_lose_0 : decode cX0_lose 0 = .ok (.aload_n 0, 1) := by decide +kernel
theorem dX0_lose_1 : decode cX0_lose 1 = .ok (.iconst 0, 1) := by decide +kernel
theorem dX0_lose_2 : decode cX0_lose 2 = .ok (.putfield 21, 3) := by decide +kernel
theorem dX0_lose_5 : decode cX0_lose 5 = .ok (.return_, 1) := by decide +kernel
theorem dX0_restore_0 : decode cX0_restore 0 = .ok (.aload_n 0, 1) := by decide +kernel
theorem dX0_restore_1 : decode cX0_restore 1 = .ok (.aload_n 0, 1) := by decide +kernel
theorem dX0_restore_2 : decode cX0_restore 2 = .ok (.getfield 17, 3) := by decide +kernel
theorem dX0_restore_5 : decode cX0_restore 5 = .ok (.ifCond .le 12, 3) := by decide +kernel
theorem dX0_restore_8 : decode cX0_restore 8 = .ok (.aload_n 0, 1) := by decide +kernel
theorem dX0_restore_9 : decode cX0_restore 9 = .ok (.getfield 17, 3) := by decide +kernel
theorem dX0_restore_12 : decode cX0_restore 12 = .ok (.iconst 1, 1) := by decide +kernel
theorem dX0_restore_13 : decode cX0_restore 13 = .ok (.isub, 1) := by decide +kernel
theorem dX0_restore_14 : decode cX0_restore 14 = .ok (.goto 5, 3) := by decide +kernel
theorem dX0_restore_17 : decode cX0_restore 17 = .ok (.bipush 7, 2) := by decide +kernel
theorem dX0_restore_19 : decode cX0_restore 19 = .ok (.putfield 17, 3) := by decide +kernel
theorem dX0_restore_22 : decode cX0_restore 22 = .ok (.aload_n 0, 1) := by decide +kernel
theorem dX0_restore_23 : decode cX0_restore 23 = .ok (.dup, 1) := by decide +kernel
theorem dX0_restore_24 : decode cX0_restore 24 = .ok (.getfield 21, 3) := by decide +kernel
theorem dX0_restore_27 : decode cX0_restore 27 = .ok (.iconst 1, 1) := by decide +kernel
theorem dX0_restore_28 : decode cX0_restore 28 = .ok (.isub, 1) := by decide +kernel
theorem dX0_restore_29 : decode cX0_restore 29 = .ok (.putfield 21, 3) := by decide +kernel
theorem dX0_restore_32 : decode cX0_restore 32 = .ok (.aload_n 1, 1) := by decide +kernel
theorem dX0_restore_33 : decode cX0_restore 33 = .ok (.aload_n 0, 1) := by decide +kernel
theorem dX0_restore_34 : decode cX0_restore 34 = .ok (.getfield 11, 3) := by decide +kernel
theorem dX0_restore_37 : decode cX0_restore 37 = .ok (.aload_n 0, 1) := by decide +kernel
theorem dX0_restore_38 : decode cX0_restore 38 = .ok (.getfield 17, 3) := by decide +kernel
theorem dX0_restore_41 : decode cX0_restore 41 = .ok (.aaload, 1) := by decide +kernel
theorem dX0_restore_42 : decode cX0_restore 42 = .ok (.invokevirtual 25, 3) := by decide +kernel
theorem dX0_restore_45 : decode cX0_restore 45 = .ok (.return_, 1) := by decide +kernel
theorem dX1_init_0 : decode cX1_init 0 = .ok (.aload_n 0, 1) := by decide +kernel
theorem dX1_init_1 : decode cX1_init 1 = .ok (.invokespecial 3, 3) := by decide +kernel
theorem dX1_init_4 : decode cX1_init 4 = .ok (.aload_n 0, 1) := by decide +kernel
theorem dX1_init_5 : decode cX1_init 5 = .ok (.iconst 4, 1) := by decide +kernel
theorem dX1_init_6 : decode cX1_init 6 = .ok (.newarray .int, 2) := by decide +kernel
theorem dX1_init_8 : decode cX1_init 8 = .ok (.putfield 9, 3) := by decide +kernel
theorem dX1_init_11 : decode cX1_init 11 = .ok (.aload_n 0, 1) := by decide +kernel
theorem dX1_init_12 : decode cX1_init 12 = .ok (.iconst 4, 1) := by decide +kernel
theorem dX1_init_13 : decode cX1_init 13 = .ok (.newarray .int, 2) := by decide +kernel
theorem dX1_init_15 : decode cX1_init 15 = .ok (.putfield 15, 3) := by decide +kernel
theorem dX1_init_18 : decode cX1_init 18 = .ok (.aload_n 0, 1) := by decide +kernel
theorem dX1_init_19 : decode cX1_init 19 = .ok (.iconst 4, 1) := by decide +kernel
theorem dX1_init_20 : decode cX1_init 20 = .ok (.newarray .int, 2) := by decide +kernel
theorem dX1_init_22 : decode cX1_init 22 = .ok (.putfield 18, 3) := by decide +kernel
theorem dX1_init_25 : decode cX1_init 25 = .ok (.aload_n 0, 1) := by decide +kernel
theorem dX1_init_26 : decode cX1_init 26 = .ok (.iconst 4, 1) := by decide +kernel
theorem dX1_init_27 : decode cX1_init 27 = .ok (.newarray .int, 2) := by decide +kernel
theorem dX1_init_29 : decode cX1_init 29 = .ok (.putfield 21, 3) := by decide +kernel
theorem dX1_init_32 : decode cX1_init 32 = .ok (.aload_n 0, 1) := by decide +kernel
theorem dX1_init_33 : decode cX1_init 33 = .ok (.iconst 4, 1) := by decide +kernel
theorem dX1_init_34 : decode cX1_init 34 = .ok (.newarray .int, 2) := by decide +kernel
theorem dX1_init_36 : decode cX1_init 36 = .ok (.putfield 24, 3) := by decide +kernel
theorem dX1_init_39 : decode cX1_init 39 = .ok (.aload_n 0, 1) := by decide +kernel
theorem dX1_init_40 : decode cX1_init 40 = .ok (.bipush 16, 2) := by decide +kernel
theorem dX1_init_42 : decode cX1_init 42 = .ok (.newarray .int, 2) := by decide +kernel
theorem dX1_init_44 : decode cX1_init 44 = .ok (.putfield 27, 3) := by decide +kernel
theorem dX1_init_47 : decode cX1_init 47 = .ok (.aload_n 0, 1) := by decide +kernel
theorem dX1_init_48 : decode cX1_init 48 = .ok (.bipush 16, 2) := by decide +kernel
theorem dX1_init_50 : decode cX1_init 50 = .ok (.newarray .int, 2) := by decide +kernel
theorem dX1_init_52 : decode cX1_init 52 = .ok (.putfield 30, 3) := by decide +kernel
theorem dX1_init_55 : decode cX1_init 55 = .ok (.aload_n 0, 1) := by decide +kernel
theorem dX1_init_56 : decode cX1_init 56 = .ok (.bipush 24, 2) := by decide +kernel
theorem dX1_init_58 : decode cX1_init 58 = .ok (.newarray .int, 2) := by decide +kernel
theorem dX1_init_60 : decode cX1_init 60 = .ok (.putfield 33, 3) := by decide +kernel
theorem dX1_init_63 : decode cX1_init 63 = .ok (.aload_n 0, 1) := by decide +kernel
theorem dX1_init_64 : decode cX1_init 64 = .ok (.bipush 24, 2) := by decide +kernel
theorem dX1_init_66 : decode cX1_init 66 = .ok (.newarray .int, 2) := by decide +kernel
theorem dX1_init_68 : decode cX1_init 68 = .ok (.putfield 36, 3) := by decide +kernel
theorem dX1_init_71 : decode cX1_init 71 = .ok (.aload_n 0, 1) := by decide +kernel
theorem dX1_init_72 : decode cX1_init 72 = .ok (.bipush 24, 2) := by decide +kernel
theorem dX1_init_74 : decode cX1_init 74 = .ok (.newarray .int, 2) := by decide +kernel
theorem dX1_init_76 : decode cX1_init 76 = .ok (.putfield 39, 3) := by decide +kernel
theorem dX1_init_79 : decode cX1_init 79 = .ok (.aload_n 0, 1) := by decide +kernel
theorem dX1_init_80 : decode cX1_init 80 = .ok (.invokevirtual 42, 3) := by decide +kernel
theorem dX1_init_83 : decode cX1_init 83 = .ok (.aload_n 0, 1) := by decide +kernel
theorem dX1_init_84 : decode cX1_init 84 = .ok (.invokevirtual 45, 3) := by decide +kernel
theorem dX1_init_87 : decode cX1_init 87 = .ok (.return_, 1) := by decide +kernel
theorem dX1_startAnew_0 : decode cX1_startAnew 0 = .ok (.aload_n 0, 1) := by decide +kernel
theorem dX1_startAnew_1 : decode cX1_startAnew 1 = .ok (.iconst 3, 1) := by decide +kernel
theorem dX1_startAnew_2 : decode cX1_startAnew 2 = .ok (.putfield 48, 3) := by decide +kernel
theorem dX1_startAnew_5 : decode cX1_startAnew 5 = .ok (.aload_n 0, 1) := by decide +kernel
theorem dX1_startAnew_6 : decode cX1_startAnew 6 = .ok (.iconst 0, 1) := by decide +kernel
theorem dX1_startAnew_7 : decode cX1_startAnew 7 = .ok (.putfield 52, 3) := by decide +kernel
theorem dX1_startAnew_10 : decode cX1_startAnew 10 = .ok (.aload_n 0, 1) := by decide +kernel
theorem dX1_startAnew_11 : decode cX1_startAnew 11 = .ok (.iconst 0, 1) := by decide +kernel
theorem dX1_startAnew_12 : decode cX1_startAnew 12 = .ok (.putfield 55, 3) := by decide +kernel
theorem dX1_startAnew_15 : decode cX1_startAnew 15 = .ok (.aload_n 0, 1) := by decide +kernel
theorem dX1_startAnew_16 : decode cX1_startAnew 16 = .ok (.getfield 9, 3) := by decide +kernel
theorem dX1_startAnew_19 : decode cX1_startAnew 19 = .ok (.bipush 99, 2) := by decide +kernel
theorem dX1_startAnew_21 : decode cX1_startAnew 21 = .ok (.invokestatic 58, 3) := by decide +kernel
theorem dX1_startAnew_24 : decode cX1_startAnew 24 = .ok (.aload_n 0, 1) := by decide +kernel
theorem dX1_startAnew_25 : decode cX1_startAnew 25 = .ok (.getfield 15, 3) := by decide +kernel
theorem dX1_startAnew_28 : decode cX1_startAnew 28 = .ok (.bipush 9, 2) := by decide +kernel
theorem dX1_startAnew_30 : decode cX1_startAnew 30 = .ok (.invokestatic 58, 3) := by decide +kernel
theorem dX1_startAnew_33 : decode cX1_startAnew 33 = .ok (.aload_n 0, 1) := by decide +kernel
theorem dX1_startAnew_34 : decode cX1_startAnew 34 = .ok (.getfield 18, 3) := by decide +kernel
theorem dX1_startAnew_37 : decode cX1_startAnew 37 = .ok (.bipush 99, 2) := by decide +kernel
theorem dX1_startAnew_39 : decode cX1_startAnew 39 = .ok (.invokestatic 58, 3) := by decide +kernel
theorem dX1_startAnew_42 : decode cX1_startAnew 42 = .ok (.aload_n 0, 1) := by decide +kernel
theorem dX1_startAnew_43 : decode cX1_startAnew 43 = .ok (.getfield 21, 3) := by decide +kernel
theorem dX1_startAnew_46 : decode cX1_startAnew 46 = .ok (.iconst 0, 1) := by decide +kernel
theorem dX1_startAnew_47 : decode cX1_startAnew 47 = .ok (.invokestatic 58, 3) := by decide +kernel
theorem dX1_startAnew_50 : decode cX1_startAnew 50 = .ok (.aload_n 0, 1) := by decide +kernel
theorem dX1_startAnew_51 : decode cX1_startAnew 51 = .ok (.getfield 24, 3) := by decide +kernel
theorem dX1_startAnew_54 : decode cX1_startAnew 54 = .ok (.iconst 0, 1) := by decide +kernel
theorem dX1_startAnew_55 : decode cX1_startAnew 55 = .ok (.invokestatic 58, 3) := by decide +kernel
theorem dX1_startAnew_58 : decode cX1_startAnew 58 = .ok (.aload_n 0, 1) := by decide +kernel
theorem dX1_startAnew_59 : decode cX1_startAnew 59 = .ok (.getfield 27, 3) := by decide +kernel
theorem dX1_startAnew_62 : decode cX1_startAnew 62 = .ok (.iconst 0, 1) := by decide +kernel
theorem dX1_startAnew_63 : decode cX1_startAnew 63 = .ok (.invokestatic 58, 3) := by decide +kernel
theorem dX1_startAnew_66 : decode cX1_startAnew 66 = .ok (.return_, 1) := by decide +kernel
theorem dX1_takeFrom_0 : decode cX1_takeFrom 0 = .ok (.aload_n 0, 1) := by decide +kernel
theorem dX1_takeFrom_1 : decode cX1_takeFrom 1 = .ok (.aload_n 1, 1) := by decide +kernel
theorem dX1_takeFrom_2 : decode cX1_takeFrom 2 = .ok (.getfield 48, 3) := by decide +kernel
theorem dX1_takeFrom_5 : decode cX1_takeFrom 5 = .ok (.putfield 48, 3) := by decide +kernel
theorem dX1_takeFrom_8 : decode cX1_takeFrom 8 = .ok (.aload_n 0, 1) := by decide +kernel
theorem dX1_takeFrom_9 : decode cX1_takeFrom 9 = .ok (.aload_n 1, 1) := by decide +kernel
theorem dX1_takeFrom_10 : decode cX1_takeFrom 10 = .ok (.getfield 52, 3) := by decide +kernel
theorem dX1_takeFrom_13 : decode cX1_takeFrom 13 = .ok (.putfield 52, 3) := by decide +kernel
theorem dX1_takeFrom_16 : decode cX1_takeFrom 16 = .ok (.aload_n 0, 1) := by decide +kernel
theorem dX1_takeFrom_17 : decode cX1_takeFrom 17 = .ok (.aload_n 1, 1) := by decide +kernel
theorem dX1_takeFrom_18 : decode cX1_takeFrom 18 = .ok (.getfield 55, 3) := by decide +kernel
theorem dX1_takeFrom_21 : decode cX1_takeFrom 21 = .ok (.putfield 55, 3) := by decide +kernel
theorem dX1_takeFrom_24 : decode cX1_takeFrom 24 = .ok (.aload_n 1, 1) := by decide +kernel
theorem dX1_takeFrom_25 : decode cX1_takeFrom 25 = .ok (.getfield 9, 3) := by decide +kernel
theorem dX1_takeFrom_28 : decode cX1_takeFrom 28 = .ok (.iconst 0, 1) := by decide +kernel
theorem dX1_takeFrom_29 : decode cX1_takeFrom 29 = .ok (.aload_n 0, 1) := by decide +kernel
theorem dX1_takeFrom_30 : decode cX1_takeFrom 30 = .ok (.getfield 9, 3) := by decide +kernel
theorem dX1_takeFrom_33 : decode cX1_takeFrom 33 = .ok (.iconst 0, 1) := by decide +kernel
theorem dX1_takeFrom_34 : decode cX1_takeFrom 34 = .ok (.iconst 4, 1) := by decide +kernel
theorem dX1_takeFrom_35 : decode cX1_takeFrom 35 = .ok (.invokestatic 64, 3) := by decide +kernel
theorem dX1_takeFrom_38 : decode cX1_takeFrom 38 = .ok (.aload_n 1, 1) := by decide +kernel
theorem dX1_takeFrom_39 : decode cX1_takeFrom 39 = .ok (.getfield 15, 3) := by decide +kernel
theorem dX1_takeFrom_42 : decode cX1_takeFrom 42 = .ok (.iconst 0, 1) := by decide +kernel
theorem dX1_takeFrom_43 : decode cX1_takeFrom 43 = .ok (.aload_n 0, 1) := by decide +kernel
theorem dX1_takeFrom_44 : decode cX1_takeFrom 44 = .ok (.getfield 15, 3) := by decide +kernel
theorem dX1_takeFrom_47 : decode cX1_takeFrom 47 = .ok (.iconst 0, 1) := by decide +kernel
theorem dX1_takeFrom_48 : decode cX1_takeFrom 48 = .ok (.iconst 4, 1) := by decide +kernel
theorem dX1_takeFrom_49 : decode cX1_takeFrom 49 = .ok (.invokestatic 64, 3) := by decide +kernel
theorem dX1_takeFrom_52 : decode cX1_takeFrom 52 = .ok (.aload_n 1, 1) := by decide +kernel
theorem dX1_takeFrom_53 : decode cX1_takeFrom 53 = .ok (.getfield 18, 3) := by decide +kernel
theorem dX1_takeFrom_56 : decode cX1_takeFrom 56 = .ok (.iconst 0, 1) := by decide +kernel
theorem dX1_takeFrom_57 : decode cX1_takeFrom 57 = .ok (.aload_n 0, 1) := by decide +kernel
theorem dX1_takeFrom_58 : decode cX1_takeFrom 58 = .ok (.getfield 18, 3) := by decide +kernel
theorem dX1_takeFrom_61 : decode cX1_takeFrom 61 = .ok (.iconst 0, 1) := by decide +kernel
theorem dX1_takeFrom_62 : decode cX1_takeFrom 62 = .ok (.iconst 4, 1) := by decide +kernel
theorem dX1_takeFrom_63 : decode cX1_takeFrom 63 = .ok (.invokestatic 64, 3) := by decide +kernel
theorem dX1_takeFrom_66 : decode cX1_takeFrom 66 = .ok (.aload_n 1, 1) := by decide +kernel
theorem dX1_takeFrom_67 : decode cX1_takeFrom 67 = .ok (.getfield 21, 3) := by decide +kernel
theorem dX1_takeFrom_70 : decode cX1_takeFrom 70 = .ok (.iconst 0, 1) := by decide +kernel
theorem dX1_takeFrom_71 : decode cX1_takeFrom 71 = .ok (.aload_n 0, 1) := by decide +kernel
theorem dX1_takeFrom_72 : decode cX1_takeFrom 72 = .ok (.getfield 21, 3) := by decide +kernel
theorem dX1_takeFrom_75 : decode cX1_takeFrom 75 = .ok (.iconst 0, 1) := by decide +kernel
theorem dX1_takeFrom_76 : decode cX1_takeFrom 76 = .ok (.iconst 4, 1) := by decide +kernel
theorem dX1_takeFrom_77 : decode cX1_takeFrom 77 = .ok (.invokestatic 64, 3) := by decide +kernel
theorem dX1_takeFrom_80 : decode cX1_takeFrom 80 = .ok (.aload_n 1, 1) := by decide +kernel
theorem dX1_takeFrom_81 : decode cX1_takeFrom 81 = .ok (.getfield 24, 3) := by decide +kernel
theorem dX1_takeFrom_84 : decode cX1_takeFrom 84 = .ok (.iconst 0, 1) := by decide +kernel
theorem dX1_takeFrom_85 : decode cX1_takeFrom 85 = .ok (.aload_n 0, 1) := by decide +kernel
theorem dX1_takeFrom_86 : decode cX1_takeFrom 86 = .ok (.getfield 24, 3) := by decide +kernel
theorem dX1_takeFrom_89 : decode cX1_takeFrom 89 = .ok (.iconst 0, 1) := by decide +kernel
theorem dX1_takeFrom_90 : decode cX1_takeFrom 90 = .ok (.iconst 4, 1) := by decide +kernel
theorem dX1_takeFrom_91 : decode cX1_takeFrom 91 = .ok (.invokestatic 64, 3) := by decide +kernel
theorem dX1_takeFrom_94 : decode cX1_takeFrom 94 = .ok (.aload_n 1, 1) := by decide +kernel
theorem dX1_takeFrom_95 : decode cX1_takeFrom 95 = .ok (.getfield 27, 3) := by decide +kernel
theorem dX1_takeFrom_98 : decode cX1_takeFrom 98 = .ok (.iconst 0, 1) := by decide +kernel
theorem dX1_takeFrom_99 : decode cX1_takeFrom 99 = .ok (.aload_n 0, 1) := by decide +kernel
theorem dX1_takeFrom_100 : decode cX1_takeFrom 100 = .ok (.getfield 27, 3) := by decide +kernel
theorem dX1_takeFrom_103 : decode cX1_takeFrom 103 = .ok (.iconst 0, 1) := by decide +kernel
theorem dX1_takeFrom_104 : decode cX1_takeFrom 104 = .ok (.bipush 16, 2) := by decide +kernel
theorem dX1_takeFrom_106 : decode cX1_takeFrom 106 = .ok (.invokestatic 64, 3) := by decide +kernel
theorem dX1_takeFrom_109 : decode cX1_takeFrom 109 = .ok (.aload_n 1, 1) := by decide +kernel
theorem dX1_takeFrom_110 : decode cX1_takeFrom 110 = .ok (.getfield 30, 3) := by decide +kernel
theorem dX1_takeFrom_113 : decode cX1_takeFrom 113 = .ok (.iconst 0, 1) := by decide +kernel
theorem dX1_takeFrom_114 : decode cX1_takeFrom 114 = .ok (.aload_n 0, 1) := by decide +kernel
theorem dX1_takeFrom_115 : decode cX1_takeFrom 115 = .ok (.getfield 30, 3) := by decide +kernel
theorem dX1_takeFrom_118 : decode cX1_takeFrom 118 = .ok (.iconst 0, 1) := by decide +kernel
theorem dX1_takeFrom_119 : decode cX1_takeFrom 119 = .ok (.bipush 16, 2) := by decide +kernel
theorem dX1_takeFrom_121 : decode cX1_takeFrom 121 = .ok (.invokestatic 64, 3) := by decide +kernel
theorem dX1_takeFrom_124 : decode cX1_takeFrom 124 = .ok (.aload_n 1, 1) := by decide +kernel
theorem dX1_takeFrom_125 : decode cX1_takeFrom 125 = .ok (.getfield 33, 3) := by decide +kernel
theorem dX1_takeFrom_128 : decode cX1_takeFrom 128 = .ok (.iconst 0, 1) := by decide +kernel
theorem dX1_takeFrom_129 : decode cX1_takeFrom 129 = .ok (.aload_n 0, 1) := by decide +kernel
theorem dX1_takeFrom_130 : decode cX1_takeFrom 130 = .ok (.getfield 33, 3) := by decide +kernel
theorem dX1_takeFrom_133 : decode cX1_takeFrom 133 = .ok (.iconst 0, 1) := by decide +kernel
theorem dX1_takeFrom_134 : decode cX1_takeFrom 134 = .ok (.bipush 24, 2) := by decide +kernel
theorem dX1_takeFrom_136 : decode cX1_takeFrom 136 = .ok (.invokestatic 64, 3) := by decide +kernel
theorem dX1_takeFrom_139 : decode cX1_takeFrom 139 = .ok (.aload_n 1, 1) := by decide +kernel
theorem dX1_takeFrom_140 : decode cX1_takeFrom 140 = .ok (.getfield 36, 3) := by decide +kernel
theorem dX1_takeFrom_143 : decode cX1_takeFrom 143 = .ok (.iconst 0, 1) := by decide +kernel
theorem dX1_takeFrom_144 : decode cX1_takeFrom 144 = .ok (.aload_n 0, 1) := by decide +kernel
theorem dX1_takeFrom_145 : decode cX1_takeFrom 145 = .ok (.getfield 36, 3) := by decide +kernel
theorem dX1_takeFrom_148 : decode cX1_takeFrom 148 = .ok (.iconst 0, 1) := by decide +kernel
theorem dX1_takeFrom_149 : decode cX1_takeFrom 149 = .ok (.bipush 24, 2) := by decide +kernel
theorem dX1_takeFrom_151 : decode cX1_takeFrom 151 = .ok (.invokestatic 64, 3) := by decide +kernel
theorem dX1_takeFrom_154 : decode cX1_takeFrom 154 = .ok (.aload_n 1, 1) := by decide +kernel
theorem dX1_takeFrom_155 : decode cX1_takeFrom 155 = .ok (.getfield 39, 3) := by decide +kernel
theorem dX1_takeFrom_158 : decode cX1_takeFrom 158 = .ok (.iconst 0, 1) := by decide +kernel
theorem dX1_takeFrom_159 : decode cX1_takeFrom 159 = .ok (.aload_n 0, 1) := by decide +kernel
theorem dX1_takeFrom_160 : decode cX1_takeFrom 160 = .ok (.getfield 39, 3) := by decide +kernel
theorem dX1_takeFrom_163 : decode cX1_takeFrom 163 = .ok (.iconst 0, 1) := by decide +kernel
theorem dX1_takeFrom_164 : decode cX1_takeFrom 164 = .ok (.bipush 24, 2) := by decide +kernel
theorem dX1_takeFrom_166 : decode cX1_takeFrom 166 = .ok (.invokestatic 64, 3) := by decide +kernel
theorem dX1_takeFrom_169 : decode cX1_takeFrom 169 = .ok (.return_, 1) := by decide +kernel
theorem dX1_setBounds_0 : decode cX1_setBounds 0 = .ok (.aload_n 0, 1) := by decide +kernel
theorem dX1_setBounds_1 : decode cX1_setBounds 1 = .ok (.getfield 9, 3) := by decide +kernel
theorem dX1_setBounds_4 : decode cX1_setBounds 4 = .ok (.iload_n 1, 1) := by decide +kernel
theorem dX1_setBounds_5 : decode cX1_setBounds 5 = .ok (.iload_n 2, 1) := by decide +kernel
theorem dX1_setBounds_6 : decode cX1_setBounds 6 = .ok (.iastore, 1) := by decide +kernel
theorem dX1_setBounds_7 : decode cX1_setBounds 7 = .ok (.aload_n 0, 1) := by decide +kernel
theorem dX1_setBounds_8 : decode cX1_setBounds 8 = .ok (.getfield 15, 3) := by decide +kernel
theorem dX1_setBounds_11 : decode cX1_setBounds 11 = .ok (.iload_n 1, 1) := by decide +kernel
theorem dX1_setBounds_12 : decode cX1_setBounds 12 = .ok (.iload_n 3, 1) := by decide +kernel
theorem dX1_setBounds_13 : decode cX1_setBounds 13 = .ok (.iastore, 1) := by decide +kernel
theorem dX1_setBounds_14 : decode cX1_setBounds 14 = .ok (.aload_n 0, 1) := by decide +kernel
theorem dX1_setBounds_15 : decode cX1_setBounds 15 = .ok (.getfield 18, 3) := by decide +kernel
theorem dX1_setBounds_18 : decode cX1_setBounds 18 = .ok (.iload_n 1, 1) := by decide +kernel
theorem dX1_setBounds_19 : decode cX1_setBounds 19 = .ok (.iload 4, 2) := by decide +kernel
theorem dX1_setBounds_21 : decode cX1_setBounds 21 = .ok (.iastore, 1) := by decide +kernel
theorem dX1_setBounds_22 : decode cX1_setBounds 22 = .ok (.return_, 1) := by decide +kernel
theorem dX1_isBound_0 : decode cX1_isBound 0 = .ok (.aload_n 0, 1) := by decide +kernel
theorem dX1_isBound_1 : decode cX1_isBound 1 = .ok (.getfield 9, 3) := by decide +kernel
theorem dX1_isBound_4 : decode cX1_isBound 4 = .ok (.iload_n 1, 1) := by decide +kernel
theorem dX1_isBound_5 : decode cX1_isBound 5 = .ok (.iaload, 1) := by decide +kernel
theorem dX1_isBound_6 : decode cX1_isBound 6 = .ok (.iload_n 2, 1) := by decide +kernel
theorem dX1_isBound_7 : decode cX1_isBound 7 = .ok (.if_icmp .ne 28, 3) := by decide +kernel
theorem dX1_isBound_10 : decode cX1_isBound 10 = .ok (.aload_n 0, 1) := by decide +kernel
theorem dX1_isBound_11 : decode cX1_isBound 11 = .ok (.getfield 15, 3) := by decide +kernel
theorem dX1_isBound_14 : decode cX1_isBound 14 = .ok (.iload_n 1, 1) := by decide +kernel
theorem dX1_isBound_15 : decode cX1_isBound 15 = .ok (.iaload, 1) := by decide +kernel
theorem dX1_isBound_16 : decode cX1_isBound 16 = .ok (.iload_n 3, 1) := by decide +kernel
theorem dX1_isBound_17 : decode cX1_isBound 17 = .ok (.if_icmp .ne 18, 3) := by decide +kernel
theorem dX1_isBound_20 : decode cX1_isBound 20 = .ok (.aload_n 0, 1) := by decide +kernel
theorem dX1_isBound_21 : decode cX1_isBound 21 = .ok (.getfield 18, 3) := by decide +kernel
theorem dX1_isBound_24 : decode cX1_isBound 24 = .ok (.iload_n 1, 1) := by decide +kernel
theorem dX1_isBound_25 : decode cX1_isBound 25 = .ok (.iaload, 1) := by decide +kernel
theorem dX1_isBound_26 : decode cX1_isBound 26 = .ok (.iload 4, 2) := by decide +kernel
theorem dX1_isBound_28 : decode cX1_isBound 28 = .ok (.if_icmp .ne 7, 3) := by decide +kernel
theorem dX1_isBound_31 : decode cX1_isBound 31 = .ok (.iconst 1, 1) := by decide +kernel
theorem dX1_isBound_32 : decode cX1_isBound 32 = .ok (.goto 4, 3) := by decide +kernel
theorem dX1_isBound_35 : decode cX1_isBound 35 = .ok (.iconst 0, 1) := by decide +kernel
theorem dX1_isBound_36 : decode cX1_isBound 36 = .ok (.ireturn, 1) := by decide +kernel
theorem dX1_splitAllNumbers_0 : decode cX1_splitAllNumbers 0 = .ok (.iconst 0, 1) := by decide +kernel
theorem dX1_splitAllNumbers_1 : decode cX1_splitAllNumbers 1 = .ok (.istore_n 1, 1) := by decide +kernel
theorem dX1_splitAllNumbers_2 : decode cX1_splitAllNumbers 2 = .ok (.iload_n 1, 1) := by decide +kernel
theorem dX1_splitAllNumbers_3 : decode cX1_splitAllNumbers 3 = .ok (.aload_n 0, 1) := by decide +kernel
theorem dX1_splitAllNumbers_4 : decode cX1_splitAllNumbers 4 = .ok (.getfield 48, 3) := by decide +kernel
theorem dX1_splitAllNumbers_7 : decode cX1_splitAllNumbers 7 = .ok (.if_icmp .ge 14, 3) := by decide +kernel
theorem dX1_splitAllNumbers_10 : decode cX1_splitAllNumbers 10 = .ok (.aload_n 0, 1) := by decide +kernel
theorem dX1_splitAllNumbers_11 : decode cX1_splitAllNumbers 11 = .ok (.iload_n 1, 1) := by decide +kernel
theorem dX1_splitAllNumbers_12 : decode cX1_splitAllNumbers 12 = .ok (.invokevirtual 70, 3) := by decide +kernel
theorem dX1_splitAllNumbers_15 : decode cX1_splitAllNumbers 15 = .ok (.iinc 1 1, 3) := by decide +kernel
theorem dX1_splitAllNumbers_18 : decode cX1_splitAllNumbers 18 = .ok (.goto (-16), 3) := by decide +kernel
theorem dX1_splitAllNumbers_21 : decode cX1_splitAllNumbers 21 = .ok (.return_, 1) := by decide +kernel
theorem dX1_splitNumber_0 : decode cX1_splitNumber 0 = .ok (.iconst 0, 1) := by decide +kernel
theorem dX1_splitNumber_1 : decode cX1_splitNumber 1 = .ok (.istore_n 2, 1) := by decide +kernel
theorem dX1_splitNumber_2 : decode cX1_splitNumber 2 = .ok (.iload_n 2, 1) := by decide +kernel
theorem dX1_splitNumber_3 : decode cX1_splitNumber 3 = .ok (.aload_n 0, 1) := by decide +kernel
theorem dX1_splitNumber_4 : decode cX1_splitNumber 4 = .ok (.getfield 48, 3) := by decide +kernel
theorem dX1_splitNumber_7 : decode cX1_splitNumber 7 = .ok (.if_icmp .ge 36, 3) := by decide +kernel
theorem dX1_splitNumber_10 : decode cX1_splitNumber 10 = .ok (.iload_n 2, 1) := by decide +kernel
theorem dX1_splitNumber_11 : decode cX1_splitNumber 11 = .ok (.iload_n 1, 1) := by decide +kernel
theorem dX1_splitNumber_12 : decode cX1_splitNumber 12 = .ok (.if_icmp .eq 25, 3) := by decide +kernel
theorem dX1_splitNumber_15 : decode cX1_splitNumber 15 = .ok (.aload_n 0, 1) := by decide +kernel
theorem dX1_splitNumber_16 : decode cX1_splitNumber 16 = .ok (.getfield 30, 3) := by decide +kernel
theorem dX1_splitNumber_19 : decode cX1_splitNumber 19 = .ok (.iload_n 1, 1) := by decide +kernel
theorem dX1_splitNumber_20 : decode cX1_splitNumber 20 = .ok (.iload_n 2, 1) := by decide +kernel
theorem dX1_splitNumber_21 : decode cX1_splitNumber 21 = .ok (.invokestatic 74, 3) := by decide +kernel
theorem dX1_splitNumber_24 : decode cX1_splitNumber 24 = .ok (.aload_n 0, 1) := by decide +kernel
theorem dX1_splitNumber_25 : decode cX1_splitNumber 25 = .ok (.aload_n 0, 1) := by decide +kernel
theorem dX1_splitNumber_26 : decode cX1_splitNumber 26 = .ok (.getfield 9, 3) := by decide +kernel
theorem dX1_splitNumber_29 : decode cX1_splitNumber 29 = .ok (.iload_n 1, 1) := by decide +kernel
theorem dX1_splitNumber_30 : decode cX1_splitNumber 30 = .ok (.iaload, 1) := by decide +kernel
theorem dX1_splitNumber_31 : decode cX1_splitNumber 31 = .ok (.iload_n 1, 1) := by decide +kernel
theorem dX1_splitNumber_32 : decode cX1_splitNumber 32 = .ok (.iload_n 2, 1) := by decide +kernel
theorem dX1_splitNumber_33 : decode cX1_splitNumber 33 = .ok (.invokevirtual 78, 3) := by decide +kernel
theorem dX1_splitNumber_36 : decode cX1_splitNumber 36 = .ok (.iastore, 1) := by decide +kernel
theorem dX1_splitNumber_37 : decode cX1_splitNumber 37 = .ok (.iinc 2 1, 3) := by decide +kernel
theorem dX1_splitNumber_40 : decode cX1_splitNumber 40 = .ok (.goto (-38), 3) := by decide +kernel
theorem dX1_splitNumber_43 : decode cX1_splitNumber 43 = .ok (.return_, 1) := by decide +kernel
theorem dX1_shareOf_0 : decode cX1_shareOf 0 = .ok (.aload_n 0, 1) := by decide +kernel
theorem dX1_shareOf_1 : decode cX1_shareOf 1 = .ok (.getfield 48, 3) := by decide +kernel
theorem dX1_shareOf_4 : decode cX1_shareOf 4 = .ok (.iconst 1, 1) := by decide +kernel
theorem dX1_shareOf_5 : decode cX1_shareOf 5 = .ok (.isub, 1) := by decide +kernel
theorem dX1_shareOf_6 : decode cX1_shareOf 6 = .ok (.istore 4, 2) := by decide +kernel
theorem dX1_shareOf_8 : decode cX1_shareOf 8 = .ok (.iload 4, 2) := by decide +kernel
theorem dX1_shareOf_10 : decode cX1_shareOf 10 = .ok (.iconst 1, 1) := by decide +kernel
theorem dX1_shareOf_11 : decode cX1_shareOf 11 = .ok (.if_icmp .ge 5, 3) := by decide +kernel
theorem dX1_shareOf_14 : decode cX1_shareOf 14 = .ok (.iconst 0, 1) := by decide +kernel
theorem dX1_shareOf_15 : decode cX1_shareOf 15 = .ok (.ireturn, 1) := by decide +kernel
theorem dX1_shareOf_16 : decode cX1_shareOf 16 = .ok (.iload_n 3, 1) := by decide +kernel
theorem dX1_shareOf_17 : decode cX1_shareOf 17 = .ok (.iload_n 2, 1) := by decide +kernel
theorem dX1_shareOf_18 : decode cX1_shareOf 18 = .ok (.if_icmp .le 9, 3) := by decide +kernel
theorem dX1_shareOf_21 : decode cX1_shareOf 21 = .ok (.iload_n 3, 1) := by decide +kernel
theorem dX1_shareOf_22 : decode cX1_shareOf 22 = .ok (.iconst 1, 1) := by decide +kernel
theorem dX1_shareOf_23 : decode cX1_shareOf 23 = .ok (.isub, 1) := by decide +kernel
theorem dX1_shareOf_24 : decode cX1_shareOf 24 = .ok (.goto 4, 3) := by decide +kernel
theorem dX1_shareOf_27 : decode cX1_shareOf 27 = .ok (.iload_n 3, 1) := by decide +kernel
theorem dX1_shareOf_28 : decode cX1_shareOf 28 = .ok (.istore 5, 2) := by decide +kernel
theorem dX1_shareOf_30 : decode cX1_shareOf 30 = .ok (.iload_n 1, 1) := by decide +kernel
theorem dX1_shareOf_31 : decode cX1_shareOf 31 = .ok (.iload 4, 2) := by decide +kernel
theorem dX1_shareOf_33 : decode cX1_shareOf 33 = .ok (.idiv, 1) := by decide +kernel
theorem dX1_shareOf_34 : decode cX1_shareOf 34 = .ok (.iload 5, 2) := by decide +kernel
theorem dX1_shareOf_36 : decode cX1_shareOf 36 = .ok (.iload_n 1, 1) := by decide +kernel
theorem dX1_shareOf_37 : decode cX1_shareOf 37 = .ok (.iload 4, 2) := by decide +kernel
theorem dX1_shareOf_39 : decode cX1_shareOf 39 = .ok (.irem, 1) := by decide +kernel
theorem dX1_shareOf_40 : decode cX1_shareOf 40 = .ok (.if_icmp .ge 7, 3) := by decide +kernel
theorem dX1_shareOf_43 : decode cX1_shareOf 43 = .ok (.iconst 1, 1) := by decide +kernel
theorem dX1_shareOf_44 : decode cX1_shareOf 44 = .ok (.goto 4, 3) := by decide +kernel
theorem dX1_shareOf_47 : decode cX1_shareOf 47 = .ok (.iconst 0, 1) := by decide +kernel
theorem dX1_shareOf_48 : decode cX1_shareOf 48 = .ok (.iadd, 1) := by decide +kernel
theorem dX1_shareOf_49 : decode cX1_shareOf 49 = .ok (.ireturn, 1) := by decide +kernel
theorem dX1_allWrites_0 : decode cX1_allWrites 0 = .ok (.iconst 1, 1) := by decide +kernel
theorem dX1_allWrites_1 : decode cX1_allWrites 1 = .ok (.aload_n 0, 1) := by decide +kernel
theorem dX1_allWrites_2 : decode cX1_allWrites 2 = .ok (.getfield 55, 3) := by decide +kernel
theorem dX1_allWrites_5 : decode cX1_allWrites 5 = .ok (.ishl, 1) := by decide +kernel
theorem dX1_allWrites_6 : decode cX1_allWrites 6 = .ok (.iconst 1, 1) := by decide +kernel
theorem dX1_allWrites_7 : decode cX1_allWrites 7 = .ok (.isub, 1) := by decide +kernel
theorem dX1_allWrites_8 : decode cX1_allWrites 8 = .ok (.ireturn, 1) := by decide +kernel
theorem dX1_weightOf_0 : decode cX1_weightOf 0 = .ok (.iconst 0, 1) := by decide +kernel
theorem dX1_weightOf_1 : decode cX1_weightOf 1 = .ok (.istore_n 2, 1) := by decide +kernel
theorem dX1_weightOf_2 : decode cX1_weightOf 2 = .ok (.iconst 0, 1) := by decide +kernel
theorem dX1_weightOf_3 : decode cX1_weightOf 3 = .ok (.istore_n 3, 1) := by decide +kernel
theorem dX1_weightOf_4 : decode cX1_weightOf 4 = .ok (.iload_n 3, 1) := by decide +kernel
theorem dX1_weightOf_5 : decode cX1_weightOf 5 = .ok (.aload_n 0, 1) := by decide +kernel
theorem dX1_weightOf_6 : decode cX1_weightOf 6 = .ok (.getfield 55, 3) := by decide +kernel
theorem dX1_weightOf_9 : decode cX1_weightOf 9 = .ok (.if_icmp .ge 26, 3) := by decide +kernel
theorem dX1_weightOf_12 : decode cX1_weightOf 12 = .ok (.iload_n 1, 1) := by decide +kernel
theorem dX1_weightOf_13 : decode cX1_weightOf 13 = .ok (.iload_n 3, 1) := by decide +kernel
theorem dX1_weightOf_14 : decode cX1_weightOf 14 = .ok (.invokestatic 82, 3) := by decide +kernel
theorem dX1_weightOf_17 : decode cX1_weightOf 17 = .ok (.ifCond .eq 12, 3) := by decide +kernel
theorem dX1_weightOf_20 : decode cX1_weightOf 20 = .ok (.iload_n 2, 1) := by decide +kernel
theorem dX1_weightOf_21 : decode cX1_weightOf 21 = .ok (.aload_n 0, 1) := by decide +kernel
theorem dX1_weightOf_22 : decode cX1_weightOf 22 = .ok (.getfield 39, 3) := by decide +kernel
theorem dX1_weightOf_25 : decode cX1_weightOf 25 = .ok (.iload_n 3, 1) := by decide +kernel
theorem dX1_weightOf_26 : decode cX1_weightOf 26 = .ok (.iaload, 1) := by decide +kernel
theorem dX1_weightOf_27 : decode cX1_weightOf 27 = .ok (.iadd, 1) := by decide +kernel
theorem dX1_weightOf_28 : decode cX1_weightOf 28 = .ok (.istore_n 2, 1) := by decide +kernel
theorem dX1_weightOf_29 : decode cX1_weightOf 29 = .ok (.iinc 3 1, 3) := by decide +kernel
theorem dX1_weightOf_32 : decode cX1_weightOf 32 = .ok (.goto (-28), 3) := by decide +kernel
theorem dX1_weightOf_35 : decode cX1_weightOf 35 = .ok (.iload_n 2, 1) := by decide +kernel
theorem dX1_weightOf_36 : decode cX1_weightOf 36 = .ok (.ireturn, 1) := by decide +kernel
theorem dX1_writesBy_0 : decode cX1_writesBy 0 = .ok (.iconst 0, 1) := by decide +kernel
theorem dX1_writesBy_1 : decode cX1_writesBy 1 = .ok (.istore_n 2, 1) := by decide +kernel
theorem dX1_writesBy_2 : decode cX1_writesBy 2 = .ok (.iconst 0, 1) := by decide +kernel
theorem dX1_writesBy_3 : decode cX1_writesBy 3 = .ok (.istore_n 3, 1) := by decide +kernel
theorem dX1_writesBy_4 : decode cX1_writesBy 4 = .ok (.iload_n 3, 1) := by decide +kernel
theorem dX1_writesBy_5 : decode cX1_writesBy 5 = .ok (.aload_n 0, 1) := by decide +kernel
theorem dX1_writesBy_6 : decode cX1_writesBy 6 = .ok (.getfield 55, 3) := by decide +kernel
theorem dX1_writesBy_9 : decode cX1_writesBy 9 = .ok (.if_icmp .ge 25, 3) := by decide +kernel
theorem dX1_writesBy_12 : decode cX1_writesBy 12 = .ok (.aload_n 0, 1) := by decide +kernel
theorem dX1_writesBy_13 : decode cX1_writesBy 13 = .ok (.getfield 33, 3) := by decide +kernel
theorem dX1_writesBy_16 : decode cX1_writesBy 16 = .ok (.iload_n 3, 1) := by decide +kernel
theorem dX1_writesBy_17 : decode cX1_writesBy 17 = .ok (.iaload, 1) := by decide +kernel
theorem dX1_writesBy_18 : decode cX1_writesBy 18 = .ok (.iload_n 1, 1) := by decide +kernel
theorem dX1_writesBy_19 : decode cX1_writesBy 19 = .ok (.if_icmp .ne 9, 3) := by decide +kernel
theorem dX1_writesBy_22 : decode cX1_writesBy 22 = .ok (.iload_n 2, 1) := by decide +kernel
theorem dX1_writesBy_23 : decode cX1_writesBy 23 = .ok (.iconst 1, 1) := by decide +kernel
theorem dX1_writesBy_24 : decode cX1_writesBy 24 = .ok (.iload_n 3, 1) := by decide +kernel
theorem dX1_writesBy_25 : decode cX1_writesBy 25 = .ok (.ishl, 1) := by decide +kernel
theorem dX1_writesBy_26 : decode cX1_writesBy 26 = .ok (.ior, 1) := by decide +kernel
theorem dX1_writesBy_27 : decode cX1_writesBy 27 = .ok (.istore_n 2, 1) := by decide +kernel
theorem dX1_writesBy_28 : decode cX1_writesBy 28 = .ok (.iinc 3 1, 3) := by decide +kernel
theorem dX1_writesBy_31 : decode cX1_writesBy 31 = .ok (.goto (-27), 3) := by decide +kernel
theorem dX1_writesBy_34 : decode cX1_writesBy 34 = .ok (.iload_n 2, 1) := by decide +kernel
theorem dX1_writesBy_35 : decode cX1_writesBy 35 = .ok (.ireturn, 1) := by decide +kernel
theorem dX1_sum_0 : decode cX1_sum 0 = .ok (.aload_n 0, 1) := by decide +kernel
theorem dX1_sum_1 : decode cX1_sum 1 = .ok (.aload_n 0, 1) := by decide +kernel
theorem dX1_sum_2 : decode cX1_sum 2 = .ok (.getfield 21, 3) := by decide +kernel
theorem dX1_sum_5 : decode cX1_sum 5 = .ok (.iload_n 1, 1) := by decide +kernel
theorem dX1_sum_6 : decode cX1_sum 6 = .ok (.iaload, 1) := by decide +kernel
theorem dX1_sum_7 : decode cX1_sum 7 = .ok (.invokevirtual 86, 3) := by decide +kernel
theorem dX1_sum_10 : decode cX1_sum 10 = .ok (.ireturn, 1) := by decide +kernel
theorem dX1_lack_0 : decode cX1_lack 0 = .ok (.aload_n 0, 1) := by decide +kernel
theorem dX1_lack_1 : decode cX1_lack 1 = .ok (.aload_n 0, 1) := by decide +kernel
theorem dX1_lack_2 : decode cX1_lack 2 = .ok (.invokevirtual 90, 3) := by decide +kernel
theorem dX1_lack_5 : decode cX1_lack 5 = .ok (.aload_n 0, 1) := by decide +kernel
theorem dX1_lack_6 : decode cX1_lack 6 = .ok (.getfield 21, 3) := by decide +kernel
theorem dX1_lack_9 : decode cX1_lack 9 = .ok (.iload_n 1, 1) := by decide +kernel
theorem dX1_lack_10 : decode cX1_lack 10 = .ok (.iaload, 1) := by decide +kernel
theorem dX1_lack_11 : decode cX1_lack 11 = .ok (.iconst (-1), 1) := by decide +kernel
theorem dX1_lack_12 : decode cX1_lack 12 = .ok (.ixor, 1) := by decide +kernel
theorem dX1_lack_13 : decode cX1_lack 13 = .ok (.iand, 1) := by decide +kernel
theorem dX1_lack_14 : decode cX1_lack 14 = .ok (.invokevirtual 86, 3) := by decide +kernel
theorem dX1_lack_17 : decode cX1_lack 17 = .ok (.ireturn, 1) := by decide +kernel
theorem dX1_slow_0 : decode cX1_slow 0 = .ok (.aload_n 0, 1) := by decide +kernel
theorem dX1_slow_1 : decode cX1_slow 1 = .ok (.getfield 21, 3) := by decide +kernel
theorem dX1_slow_4 : decode cX1_slow 4 = .ok (.iload_n 1, 1) := by decide +kernel
theorem dX1_slow_5 : decode cX1_slow 5 = .ok (.iaload, 1) := by decide +kernel
theorem dX1_slow_6 : decode cX1_slow 6 = .ok (.aload_n 0, 1) := by decide +kernel
theorem dX1_slow_7 : decode cX1_slow 7 = .ok (.getfield 24, 3) := by decide +kernel
theorem dX1_slow_10 : decode cX1_slow 10 = .ok (.iload_n 1, 1) := by decide +kernel
theorem dX1_slow_11 : decode cX1_slow 11 = .ok (.iaload, 1) := by decide +kernel
theorem dX1_slow_12 : decode cX1_slow 12 = .ok (.iconst (-1), 1) := by decide +kernel
theorem dX1_slow_13 : decode cX1_slow 13 = .ok (.ixor, 1) := by decide +kernel
theorem dX1_slow_14 : decode cX1_slow 14 = .ok (.iand, 1) := by decide +kernel
theorem dX1_slow_15 : decode cX1_slow 15 = .ok (.invokestatic 94, 3) := by decide +kernel
theorem dX1_slow_18 : decode cX1_slow 18 = .ok (.ireturn, 1) := by decide +kernel
theorem dX1_owed_0 : decode cX1_owed 0 = .ok (.aload_n 0, 1) := by decide +kernel
theorem dX1_owed_1 : decode cX1_owed 1 = .ok (.aload_n 0, 1) := by decide +kernel
theorem dX1_owed_2 : decode cX1_owed 2 = .ok (.iload_n 1, 1) := by decide +kernel
theorem dX1_owed_3 : decode cX1_owed 3 = .ok (.invokevirtual 99, 3) := by decide +kernel
theorem dX1_owed_6 : decode cX1_owed 6 = .ok (.aload_n 0, 1) := by decide +kernel
theorem dX1_owed_7 : decode cX1_owed 7 = .ok (.getfield 21, 3) := by decide +kernel
theorem dX1_owed_10 : decode cX1_owed 10 = .ok (.iload_n 2, 1) := by decide +kernel
theorem dX1_owed_11 : decode cX1_owed 11 = .ok (.iaload, 1) := by decide +kernel
theorem dX1_owed_12 : decode cX1_owed 12 = .ok (.iconst (-1), 1) := by decide +kernel
theorem dX1_owed_13 : decode cX1_owed 13 = .ok (.ixor, 1) := by decide +kernel
theorem dX1_owed_14 : decode cX1_owed 14 = .ok (.iand, 1) := by decide +kernel
theorem dX1_owed_15 : decode cX1_owed 15 = .ok (.invokevirtual 86, 3) := by decide +kernel
theorem dX1_owed_18 : decode cX1_owed 18 = .ok (.ireturn, 1) := by decide +kernel
theorem dX1_left_0 : decode cX1_left 0 = .ok (.aload_n 0, 1) := by decide +kernel
theorem dX1_left_1 : decode cX1_left 1 = .ok (.getfield 30, 3) := by decide +kernel
theorem dX1_left_4 : decode cX1_left 4 = .ok (.iload_n 2, 1) := by decide +kernel
theorem dX1_left_5 : decode cX1_left 5 = .ok (.iload_n 1, 1) := by decide +kernel
theorem dX1_left_6 : decode cX1_left 6 = .ok (.invokestatic 74, 3) := by decide +kernel
theorem dX1_left_9 : decode cX1_left 9 = .ok (.iaload, 1) := by decide +kernel
theorem dX1_left_10 : decode cX1_left 10 = .ok (.aload_n 0, 1) := by decide +kernel
theorem dX1_left_11 : decode cX1_left 11 = .ok (.iload_n 1, 1) := by decide +kernel
theorem dX1_left_12 : decode cX1_left 12 = .ok (.iload_n 2, 1) := by decide +kernel
theorem dX1_left_13 : decode cX1_left 13 = .ok (.invokevirtual 102, 3) := by decide +kernel
theorem dX1_left_16 : decode cX1_left 16 = .ok (.isub, 1) := by decide +kernel
theorem dX1_left_17 : decode cX1_left 17 = .ok (.ireturn, 1) := by decide +kernel
theorem dX1_spare_0 : decode cX1_spare 0 = .ok (.bipush 99, 2) := by decide +kernel
theorem dX1_spare_2 : decode cX1_spare 2 = .ok (.istore_n 2, 1) := by decide +kernel
theorem dX1_spare_3 : decode cX1_spare 3 = .ok (.iconst 0, 1) := by decide +kernel
theorem dX1_spare_4 : decode cX1_spare 4 = .ok (.istore_n 3, 1) := by decide +kernel
theorem dX1_spare_5 : decode cX1_spare 5 = .ok (.iload_n 3, 1) := by decide +kernel
theorem dX1_spare_6 : decode cX1_spare 6 = .ok (.aload_n 0, 1) := by decide +kernel
theorem dX1_spare_7 : decode cX1_spare 7 = .ok (.getfield 48, 3) := by decide +kernel
theorem dX1_spare_10 : decode cX1_spare 10 = .ok (.if_icmp .ge 25, 3) := by decide +kernel
theorem dX1_spare_13 : decode cX1_spare 13 = .ok (.iload_n 3, 1) := by decide +kernel
theorem dX1_spare_14 : decode cX1_spare 14 = .ok (.iload_n 1, 1) := by decide +kernel
theorem dX1_spare_15 : decode cX1_spare 15 = .ok (.if_icmp .eq 14, 3) := by decide +kernel
theorem dX1_spare_18 : decode cX1_spare 18 = .ok (.iload_n 2, 1) := by decide +kernel
theorem dX1_spare_19 : decode cX1_spare 19 = .ok (.aload_n 0, 1) := by decide +kernel
theorem dX1_spare_20 : decode cX1_spare 20 = .ok (.iload_n 1, 1) := by decide +kernel
theorem dX1_spare_21 : decode cX1_spare 21 = .ok (.iload_n 3, 1) := by decide +kernel
theorem dX1_spare_22 : decode cX1_spare 22 = .ok (.invokevirtual 105, 3) := by decide +kernel
theorem dX1_spare_25 : decode cX1_spare 25 = .ok (.invokestatic 108, 3) := by decide +kernel
theorem dX1_spare_28 : decode cX1_spare 28 = .ok (.istore_n 2, 1) := by decide +kernel
theorem dX1_spare_29 : decode cX1_spare 29 = .ok (.iinc 3 1, 3) := by decide +kernel
theorem dX1_spare_32 : decode cX1_spare 32 = .ok (.goto (-27), 3) := by decide +kernel
theorem dX1_spare_35 : decode cX1_spare 35 = .ok (.iload_n 2, 1) := by decide +kernel
theorem dX1_spare_36 : decode cX1_spare 36 = .ok (.ireturn, 1) := by decide +kernel
theorem dX1_copiesWith_0 : decode cX1_copiesWith 0 = .ok (.iconst 0, 1) := by decide +kernel
theorem dX1_copiesWith_1 : decode cX1_copiesWith 1 = .ok (.istore_n 3, 1) := by decide +kernel
theorem dX1_copiesWith_2 : decode cX1_copiesWith 2 = .ok (.iconst 0, 1) := by decide +kernel
theorem dX1_copiesWith_3 : decode cX1_copiesWith 3 = .ok (.istore 4, 2) := by decide +kernel
theorem dX1_copiesWith_5 : decode cX1_copiesWith 5 = .ok (.iload 4, 2) := by decide +kernel
theorem dX1_copiesWith_7 : decode cX1_copiesWith 7 = .ok (.aload_n 0, 1) := by decide +kernel
theorem dX1_copiesWith_8 : decode cX1_copiesWith 8 = .ok (.getfield 48, 3) := by decide +kernel
theorem dX1_copiesWith_11 : decode cX1_copiesWith 11 = .ok (.if_icmp .ge 26, 3) := by decide +kernel
theorem dX1_copiesWith_14 : decode cX1_copiesWith 14 = .ok (.aload_n 1, 1) := by decide +kernel
theorem dX1_copiesWith_15 : decode cX1_copiesWith 15 = .ok (.iload 4, 2) := by decide +kernel
theorem dX1_copiesWith_17 : decode cX1_copiesWith 17 = .ok (.iaload, 1) := by decide +kernel
theorem dX1_copiesWith_18 : decode cX1_copiesWith 18 = .ok (.iload_n 2, 1) := by decide +kernel
theorem dX1_copiesWith_19 : decode cX1_copiesWith 19 = .ok (.iand, 1) := by decide +kernel
theorem dX1_copiesWith_20 : decode cX1_copiesWith 20 = .ok (.iload_n 2, 1) := by decide +kernel
theorem dX1_copiesWith_21 : decode cX1_copiesWith 21 = .ok (.if_icmp .ne 10, 3) := by decide +kernel
theorem dX1_copiesWith_24 : decode cX1_copiesWith 24 = .ok (.iload_n 3, 1) := by decide +kernel
theorem dX1_copiesWith_25 : decode cX1_copiesWith 25 = .ok (.iconst 1, 1) := by decide +kernel
theorem dX1_copiesWith_26 : decode cX1_copiesWith 26 = .ok (.iload 4, 2) := by decide +kernel
theorem dX1_copiesWith_28 : decode cX1_copiesWith 28 = .ok (.ishl, 1) := by decide +kernel
theorem dX1_copiesWith_29 : decode cX1_copiesWith 29 = .ok (.ior, 1) := by decide +kernel
theorem dX1_copiesWith_30 : decode cX1_copiesWith 30 = .ok (.istore_n 3, 1) := by decide +kernel
theorem dX1_copiesWith_31 : decode cX1_copiesWith 31 = .ok (.iinc 4 1, 3) := by decide +kernel
theorem dX1_copiesWith_34 : decode cX1_copiesWith 34 = .ok (.goto (-29), 3) := by decide +kernel
theorem dX1_copiesWith_37 : decode cX1_copiesWith 37 = .ok (.iload_n 3, 1) := by decide +kernel
theorem dX1_copiesWith_38 : decode cX1_copiesWith 38 = .ok (.ireturn, 1) := by decide +kernel
theorem dX1_pushesFor_0 : decode cX1_pushesFor 0 = .ok (.iconst 0, 1) := by decide +kernel
theorem dX1_pushesFor_1 : decode cX1_pushesFor 1 = .ok (.istore_n 3, 1) := by decide +kernel
theorem dX1_pushesFor_2 : decode cX1_pushesFor 2 = .ok (.iconst 0, 1) := by decide +kernel
theorem dX1_pushesFor_3 : decode cX1_pushesFor 3 = .ok (.istore 4, 2) := by decide +kernel
theorem dX1_pushesFor_5 : decode cX1_pushesFor 5 = .ok (.iload 4, 2) := by decide +kernel
theorem dX1_pushesFor_7 : decode cX1_pushesFor 7 = .ok (.aload_n 0, 1) := by decide +kernel
theorem dX1_pushesFor_8 : decode cX1_pushesFor 8 = .ok (.getfield 48, 3) := by decide +kernel
theorem dX1_pushesFor_11 : decode cX1_pushesFor 11 = .ok (.if_icmp .ge 29, 3) := by decide +kernel
theorem dX1_pushesFor_14 : decode cX1_pushesFor 14 = .ok (.iload 4, 2) := by decide +kernel
theorem dX1_pushesFor_16 : decode cX1_pushesFor 16 = .ok (.iload_n 1, 1) := by decide +kernel
theorem dX1_pushesFor_17 : decode cX1_pushesFor 17 = .ok (.if_icmp .eq 17, 3) := by decide +kernel
theorem dX1_pushesFor_20 : decode cX1_pushesFor 20 = .ok (.aload_n 0, 1) := by decide +kernel
theorem dX1_pushesFor_21 : decode cX1_pushesFor 21 = .ok (.iload_n 1, 1) := by decide +kernel
theorem dX1_pushesFor_22 : decode cX1_pushesFor 22 = .ok (.iload 4, 2) := by decide +kernel
theorem dX1_pushesFor_24 : decode cX1_pushesFor 24 = .ok (.invokevirtual 105, 3) := by decide +kernel
theorem dX1_pushesFor_27 : decode cX1_pushesFor 27 = .ok (.iload_n 2, 1) := by decide +kernel
theorem dX1_pushesFor_28 : decode cX1_pushesFor 28 = .ok (.if_icmp .ge 6, 3) := by decide +kernel
theorem dX1_pushesFor_31 : decode cX1_pushesFor 31 = .ok (.iinc 3 1, 3) := by decide +kernel
theorem dX1_pushesFor_34 : decode cX1_pushesFor 34 = .ok (.iinc 4 1, 3) := by decide +kernel
theorem dX1_pushesFor_37 : decode cX1_pushesFor 37 = .ok (.goto (-32), 3) := by decide +kernel
theorem dX1_pushesFor_40 : decode cX1_pushesFor 40 = .ok (.iload_n 3, 1) := by decide +kernel
theorem dX1_pushesFor_41 : decode cX1_pushesFor 41 = .ok (.ireturn, 1) := by decide +kernel
theorem dX1_accept_0 : decode cX1_accept 0 = .ok (.aload_n 0, 1) := by decide +kernel
theorem dX1_accept_1 : decode cX1_accept 1 = .ok (.getfield 33, 3) := by decide +kernel
theorem dX1_accept_4 : decode cX1_accept 4 = .ok (.aload_n 0, 1) := by decide +kernel
theorem dX1_accept_5 : decode cX1_accept 5 = .ok (.getfield 55, 3) := by decide +kernel
theorem dX1_accept_8 : decode cX1_accept 8 = .ok (.iload_n 1, 1) := by decide +kernel
theorem dX1_accept_9 : decode cX1_accept 9 = .ok (.iastore, 1) := by decide +kernel
theorem dX1_accept_10 : decode cX1_accept 10 = .ok (.aload_n 0, 1) := by decide +kernel
theorem dX1_accept_11 : decode cX1_accept 11 = .ok (.getfield 36, 3) := by decide +kernel
theorem dX1_accept_14 : decode cX1_accept 14 = .ok (.aload_n 0, 1) := by decide +kernel
theorem dX1_accept_15 : decode cX1_accept 15 = .ok (.getfield 55, 3) := by decide +kernel
theorem dX1_accept_18 : decode cX1_accept 18 = .ok (.aload_n 0, 1) := by decide +kernel
theorem dX1_accept_19 : decode cX1_accept 19 = .ok (.getfield 52, 3) := by decide +kernel
theorem dX1_accept_22 : decode cX1_accept 22 = .ok (.iastore, 1) := by decide +kernel
theorem dX1_accept_23 : decode cX1_accept 23 = .ok (.aload_n 0, 1) := by decide +kernel
theorem dX1_accept_24 : decode cX1_accept 24 = .ok (.getfield 39, 3) := by decide +kernel
theorem dX1_accept_27 : decode cX1_accept 27 = .ok (.aload_n 0, 1) := by decide +kernel
theorem dX1_accept_28 : decode cX1_accept 28 = .ok (.getfield 55, 3) := by decide +kernel
theorem dX1_accept_31 : decode cX1_accept 31 = .ok (.iload_n 2, 1) := by decide +kernel
theorem dX1_accept_32 : decode cX1_accept 32 = .ok (.iastore, 1) := by decide +kernel
theorem dX1_accept_33 : decode cX1_accept 33 = .ok (.aload_n 0, 1) := by decide +kernel
theorem dX1_accept_34 : decode cX1_accept 34 = .ok (.iload_n 1, 1) := by decide +kernel
theorem dX1_accept_35 : decode cX1_accept 35 = .ok (.iconst 1, 1) := by decide +kernel
theorem dX1_accept_36 : decode cX1_accept 36 = .ok (.aload_n 0, 1) := by decide +kernel
theorem dX1_accept_37 : decode cX1_accept 37 = .ok (.getfield 55, 3) := by decide +kernel
theorem dX1_accept_40 : decode cX1_accept 40 = .ok (.ishl, 1) := by decide +kernel
theorem dX1_accept_41 : decode cX1_accept 41 = .ok (.invokevirtual 113, 3) := by decide +kernel
theorem dX1_accept_44 : decode cX1_accept 44 = .ok (.aload_n 0, 1) := by decide +kernel
theorem dX1_accept_45 : decode cX1_accept 45 = .ok (.dup, 1) := by decide +kernel
theorem dX1_accept_46 : decode cX1_accept 46 = .ok (.getfield 55, 3) := by decide +kernel
theorem dX1_accept_49 : decode cX1_accept 49 = .ok (.iconst 1, 1) := by decide +kernel
theorem dX1_accept_50 : decode cX1_accept 50 = .ok (.iadd, 1) := by decide +kernel
theorem dX1_accept_51 : decode cX1_accept 51 = .ok (.putfield 55, 3) := by decide +kernel
theorem dX1_accept_54 : decode cX1_accept 54 = .ok (.iconst 0, 1) := by decide +kernel
theorem dX1_accept_55 : decode cX1_accept 55 = .ok (.istore_n 3, 1) := by decide +kernel
theorem dX1_accept_56 : decode cX1_accept 56 = .ok (.iconst 0, 1) := by decide +kernel
theorem dX1_accept_57 : decode cX1_accept 57 = .ok (.istore 4, 2) := by decide +kernel
theorem dX1_accept_59 : decode cX1_accept 59 = .ok (.iload 4, 2) := by decide +kernel
theorem dX1_accept_61 : decode cX1_accept 61 = .ok (.aload_n 0, 1) := by decide +kernel
theorem dX1_accept_62 : decode cX1_accept 62 = .ok (.getfield 48, 3) := by decide +kernel
theorem dX1_accept_65 : decode cX1_accept 65 = .ok (.if_icmp .ge 28, 3) := by decide +kernel
theorem dX1_accept_68 : decode cX1_accept 68 = .ok (.iload 4, 2) := by decide +kernel
theorem dX1_accept_70 : decode cX1_accept 70 = .ok (.iload_n 1, 1) := by decide +kernel
theorem dX1_accept_71 : decode cX1_accept 71 = .ok (.if_icmp .eq 16, 3) := by decide +kernel
theorem dX1_accept_74 : decode cX1_accept 74 = .ok (.aload_n 0, 1) := by decide +kernel
theorem dX1_accept_75 : decode cX1_accept 75 = .ok (.iload_n 1, 1) := by decide +kernel
theorem dX1_accept_76 : decode cX1_accept 76 = .ok (.iload 4, 2) := by decide +kernel
theorem dX1_accept_78 : decode cX1_accept 78 = .ok (.invokevirtual 117, 3) := by decide +kernel
theorem dX1_accept_81 : decode cX1_accept 81 = .ok (.ifCond .eq 6, 3) := by decide +kernel
theorem dX1_accept_84 : decode cX1_accept 84 = .ok (.iinc 3 1, 3) := by decide +kernel
theorem dX1_accept_87 : decode cX1_accept 87 = .ok (.iinc 4 1, 3) := by decide +kernel
theorem dX1_accept_90 : decode cX1_accept 90 = .ok (.goto (-31), 3) := by decide +kernel
theorem dX1_accept_93 : decode cX1_accept 93 = .ok (.iload_n 3, 1) := by decide +kernel
theorem dX1_accept_94 : decode cX1_accept 94 = .ok (.ireturn, 1) := by decide +kernel
theorem dX1_pushIfOver_0 : decode cX1_pushIfOver 0 = .ok (.aload_n 0, 1) := by decide +kernel
theorem dX1_pushIfOver_1 : decode cX1_pushIfOver 1 = .ok (.iload_n 1, 1) := by decide +kernel
theorem dX1_pushIfOver_2 : decode cX1_pushIfOver 2 = .ok (.iload_n 2, 1) := by decide +kernel
theorem dX1_pushIfOver_3 : decode cX1_pushIfOver 3 = .ok (.invokevirtual 105, 3) := by decide +kernel
theorem dX1_pushIfOver_6 : decode cX1_pushIfOver 6 = .ok (.ifCond .lt 5, 3) := by decide +kernel
theorem dX1_pushIfOver_9 : decode cX1_pushIfOver 9 = .ok (.iconst 0, 1) := by decide +kernel
theorem dX1_pushIfOver_10 : decode cX1_pushIfOver 10 = .ok (.ireturn, 1) := by decide +kernel
theorem dX1_pushIfOver_11 : decode cX1_pushIfOver 11 = .ok (.aload_n 0, 1) := by decide +kernel
theorem dX1_pushIfOver_12 : decode cX1_pushIfOver 12 = .ok (.iload_n 2, 1) := by decide +kernel
theorem dX1_pushIfOver_13 : decode cX1_pushIfOver 13 = .ok (.aload_n 0, 1) := by decide +kernel
theorem dX1_pushIfOver_14 : decode cX1_pushIfOver 14 = .ok (.iload_n 1, 1) := by decide +kernel
theorem dX1_pushIfOver_15 : decode cX1_pushIfOver 15 = .ok (.invokevirtual 99, 3) := by decide +kernel
theorem dX1_pushIfOver_18 : decode cX1_pushIfOver 18 = .ok (.invokevirtual 113, 3) := by decide +kernel
theorem dX1_pushIfOver_21 : decode cX1_pushIfOver 21 = .ok (.aload_n 0, 1) := by decide +kernel
theorem dX1_pushIfOver_22 : decode cX1_pushIfOver 22 = .ok (.getfield 27, 3) := by decide +kernel
theorem dX1_pushIfOver_25 : decode cX1_pushIfOver 25 = .ok (.iload_n 2, 1) := by decide +kernel
theorem dX1_pushIfOver_26 : decode cX1_pushIfOver 26 = .ok (.iload_n 1, 1) := by decide +kernel
theorem dX1_pushIfOver_27 : decode cX1_pushIfOver 27 = .ok (.invokestatic 74, 3) := by decide +kernel
theorem dX1_pushIfOver_30 : decode cX1_pushIfOver 30 = .ok (.aload_n 0, 1) := by decide +kernel
theorem dX1_pushIfOver_31 : decode cX1_pushIfOver 31 = .ok (.getfield 52, 3) := by decide +kernel
theorem dX1_pushIfOver_34 : decode cX1_pushIfOver 34 = .ok (.iastore, 1) := by decide +kernel
theorem dX1_pushIfOver_35 : decode cX1_pushIfOver 35 = .ok (.iconst 1, 1) := by decide +kernel
theorem dX1_pushIfOver_36 : decode cX1_pushIfOver 36 = .ok (.ireturn, 1) := by decide +kernel
theorem dX1_learn_0 : decode cX1_learn 0 = .ok (.aload_n 0, 1) := by decide +kernel
theorem dX1_learn_1 : decode cX1_learn 1 = .ok (.getfield 21, 3) := by decide +kernel
theorem dX1_learn_4 : decode cX1_learn 4 = .ok (.iload_n 1, 1) := by decide +kernel
theorem dX1_learn_5 : decode cX1_learn 5 = .ok (.dup2, 1) := by decide +kernel
theorem dX1_learn_6 : decode cX1_learn 6 = .ok (.iaload, 1) := by decide +kernel
theorem dX1_learn_7 : decode cX1_learn 7 = .ok (.iload_n 2, 1) := by decide +kernel
theorem dX1_learn_8 : decode cX1_learn 8 = .ok (.ior, 1) := by decide +kernel
theorem dX1_learn_9 : decode cX1_learn 9 = .ok (.iastore, 1) := by decide +kernel
theorem dX1_learn_10 : decode cX1_learn 10 = .ok (.aload_n 0, 1) := by decide +kernel
theorem dX1_learn_11 : decode cX1_learn 11 = .ok (.getfield 24, 3) := by decide +kernel
theorem dX1_learn_14 : decode cX1_learn 14 = .ok (.iconst 0, 1) := by decide +kernel
theorem dX1_learn_15 : decode cX1_learn 15 = .ok (.aload_n 0, 1) := by decide +kernel
theorem dX1_learn_16 : decode cX1_learn 16 = .ok (.getfield 21, 3) := by decide +kernel
theorem dX1_learn_19 : decode cX1_learn 19 = .ok (.iconst 0, 1) := by decide +kernel
theorem dX1_learn_20 : decode cX1_learn 20 = .ok (.iaload, 1) := by decide +kernel
theorem dX1_learn_21 : decode cX1_learn 21 = .ok (.iastore, 1) := by decide +kernel
theorem dX1_learn_22 : decode cX1_learn 22 = .ok (.return_, 1) := by decide +kernel
theorem dX1_pull_0 : decode cX1_pull 0 = .ok (.aload_n 0, 1) := by decide +kernel
theorem dX1_pull_1 : decode cX1_pull 1 = .ok (.iload_n 1, 1) := by decide +kernel
theorem dX1_pull_2 : decode cX1_pull 2 = .ok (.aload_n 0, 1) := by decide +kernel
theorem dX1_pull_3 : decode cX1_pull 3 = .ok (.getfield 21, 3) := by decide +kernel
theorem dX1_pull_6 : decode cX1_pull 6 = .ok (.iload_n 2, 1) := by decide +kernel
theorem dX1_pull_7 : decode cX1_pull 7 = .ok (.iaload, 1) := by decide +kernel
theorem dX1_pull_8 : decode cX1_pull 8 = .ok (.invokevirtual 113, 3) := by decide +kernel
theorem dX1_pull_11 : decode cX1_pull 11 = .ok (.aload_n 0, 1) := by decide +kernel
theorem dX1_pull_12 : decode cX1_pull 12 = .ok (.getfield 24, 3) := by decide +kernel
theorem dX1_pull_15 : decode cX1_pull 15 = .ok (.iload_n 1, 1) := by decide +kernel
theorem dX1_pull_16 : decode cX1_pull 16 = .ok (.dup2, 1) := by decide +kernel
theorem dX1_pull_17 : decode cX1_pull 17 = .ok (.iaload, 1) := by decide +kernel
theorem dX1_pull_18 : decode cX1_pull 18 = .ok (.aload_n 0, 1) := by decide +kernel
theorem dX1_pull_19 : decode cX1_pull 19 = .ok (.getfield 24, 3) := by decide +kernel
theorem dX1_pull_22 : decode cX1_pull 22 = .ok (.iload_n 2, 1) := by decide +kernel
theorem dX1_pull_23 : decode cX1_pull 23 = .ok (.iaload, 1) := by decide +kernel
theorem dX1_pull_24 : decode cX1_pull 24 = .ok (.ior, 1) := by decide +kernel
theorem dX1_pull_25 : decode cX1_pull 25 = .ok (.iastore, 1) := by decide +kernel
theorem dX1_pull_26 : decode cX1_pull 26 = .ok (.aload_n 0, 1) := by decide +kernel
theorem dX1_pull_27 : decode cX1_pull 27 = .ok (.getfield 27, 3) := by decide +kernel
theorem dX1_pull_30 : decode cX1_pull 30 = .ok (.iload_n 1, 1) := by decide +kernel
theorem dX1_pull_31 : decode cX1_pull 31 = .ok (.iload_n 2, 1) := by decide +kernel
theorem dX1_pull_32 : decode cX1_pull 32 = .ok (.invokestatic 74, 3) := by decide +kernel
theorem dX1_pull_35 : decode cX1_pull 35 = .ok (.aload_n 0, 1) := by decide +kernel
theorem dX1_pull_36 : decode cX1_pull 36 = .ok (.getfield 52, 3) := by decide +kernel
theorem dX1_pull_39 : decode cX1_pull 39 = .ok (.iastore, 1) := by decide +kernel
theorem dX1_pull_40 : decode cX1_pull 40 = .ok (.iconst 0, 1) := by decide +kernel
theorem dX1_pull_41 : decode cX1_pull 41 = .ok (.istore_n 3, 1) := by decide +kernel
theorem dX1_pull_42 : decode cX1_pull 42 = .ok (.iload_n 3, 1) := by decide +kernel
theorem dX1_pull_43 : decode cX1_pull 43 = .ok (.aload_n 0, 1) := by decide +kernel
theorem dX1_pull_44 : decode cX1_pull 44 = .ok (.getfield 48, 3) := by decide +kernel
theorem dX1_pull_47 : decode cX1_pull 47 = .ok (.if_icmp .ge 52, 3) := by decide +kernel
theorem dX1_pull_50 : decode cX1_pull 50 = .ok (.iload_n 3, 1) := by decide +kernel
theorem dX1_pull_51 : decode cX1_pull 51 = .ok (.iload_n 1, 1) := by decide +kernel
theorem dX1_pull_52 : decode cX1_pull 52 = .ok (.if_icmp .eq 41, 3) := by decide +kernel
theorem dX1_pull_55 : decode cX1_pull 55 = .ok (.iload_n 3, 1) := by decide +kernel
theorem dX1_pull_56 : decode cX1_pull 56 = .ok (.iload_n 2, 1) := by decide +kernel
theorem dX1_pull_57 : decode cX1_pull 57 = .ok (.if_icmp .eq 36, 3) := by decide +kernel
theorem dX1_pull_60 : decode cX1_pull 60 = .ok (.aload_n 0, 1) := by decide +kernel
theorem dX1_pull_61 : decode cX1_pull 61 = .ok (.getfield 27, 3) := by decide +kernel
theorem dX1_pull_64 : decode cX1_pull 64 = .ok (.iload_n 1, 1) := by decide +kernel
theorem dX1_pull_65 : decode cX1_pull 65 = .ok (.iload_n 3, 1) := by decide +kernel
theorem dX1_pull_66 : decode cX1_pull 66 = .ok (.invokestatic 74, 3) := by decide +kernel
theorem dX1_pull_69 : decode cX1_pull 69 = .ok (.aload_n 0, 1) := by decide +kernel
theorem dX1_pull_70 : decode cX1_pull 70 = .ok (.getfield 27, 3) := by decide +kernel
theorem dX1_pull_73 : decode cX1_pull 73 = .ok (.iload_n 1, 1) := by decide +kernel
theorem dX1_pull_74 : decode cX1_pull 74 = .ok (.iload_n 3, 1) := by decide +kernel
theorem dX1_pull_75 : decode cX1_pull 75 = .ok (.invokestatic 74, 3) := by decide +kernel
theorem dX1_pull_78 : decode cX1_pull 78 = .ok (.iaload, 1) := by decide +kernel
theorem dX1_pull_79 : decode cX1_pull 79 = .ok (.aload_n 0, 1) := by decide +kernel
theorem dX1_pull_80 : decode cX1_pull 80 = .ok (.getfield 27, 3) := by decide +kernel
theorem dX1_pull_83 : decode cX1_pull 83 = .ok (.iload_n 2, 1) := by decide +kernel
theorem dX1_pull_84 : decode cX1_pull 84 = .ok (.iload_n 3, 1) := by decide +kernel
theorem dX1_pull_85 : decode cX1_pull 85 = .ok (.invokestatic 74, 3) := by decide +kernel
theorem dX1_pull_88 : decode cX1_pull 88 = .ok (.iaload, 1) := by decide +kernel
theorem dX1_pull_89 : decode cX1_pull 89 = .ok (.invokestatic 120, 3) := by decide +kernel
theorem dX1_pull_92 : decode cX1_pull 92 = .ok (.iastore, 1) := by decide +kernel
theorem dX1_pull_93 : decode cX1_pull 93 = .ok (.iinc 3 1, 3) := by decide +kernel
theorem dX1_pull_96 : decode cX1_pull 96 = .ok (.goto (-54), 3) := by decide +kernel
theorem dX1_pull_99 : decode cX1_pull 99 = .ok (.return_, 1) := by decide +kernel
theorem dX1_read_0 : decode cX1_read 0 = .ok (.iconst 0, 1) := by decide +kernel
theorem dX1_read_1 : decode cX1_read 1 = .ok (.istore_n 2, 1) := by decide +kernel
theorem dX1_read_2 : decode cX1_read 2 = .ok (.iconst 0, 1) := by decide +kernel
theorem dX1_read_3 : decode cX1_read 3 = .ok (.istore_n 3, 1) := by decide +kernel
theorem dX1_read_4 : decode cX1_read 4 = .ok (.iload_n 3, 1) := by decide +kernel
theorem dX1_read_5 : decode cX1_read 5 = .ok (.aload_n 0, 1) := by decide +kernel
theorem dX1_read_6 : decode cX1_read 6 = .ok (.getfield 48, 3) := by decide +kernel
theorem dX1_read_9 : decode cX1_read 9 = .ok (.if_icmp .ge 47, 3) := by decide +kernel
theorem dX1_read_12 : decode cX1_read 12 = .ok (.iload_n 3, 1) := by decide +kernel
theorem dX1_read_13 : decode cX1_read 13 = .ok (.iload_n 1, 1) := by decide +kernel
theorem dX1_read_14 : decode cX1_read 14 = .ok (.if_icmp .eq 36, 3) := by decide +kernel
theorem dX1_read_17 : decode cX1_read 17 = .ok (.aload_n 0, 1) := by decide +kernel
theorem dX1_read_18 : decode cX1_read 18 = .ok (.getfield 52, 3) := by decide +kernel
theorem dX1_read_21 : decode cX1_read 21 = .ok (.aload_n 0, 1) := by decide +kernel
theorem dX1_read_22 : decode cX1_read 22 = .ok (.getfield 27, 3) := by decide +kernel
theorem dX1_read_25 : decode cX1_read 25 = .ok (.iload_n 1, 1) := by decide +kernel
theorem dX1_read_26 : decode cX1_read 26 = .ok (.iload_n 3, 1) := by decide +kernel
theorem dX1_read_27 : decode cX1_read 27 = .ok (.invokestatic 74, 3) := by decide +kernel
theorem dX1_read_30 : decode cX1_read 30 = .ok (.iaload, 1) := by decide +kernel
theorem dX1_read_31 : decode cX1_read 31 = .ok (.isub, 1) := by decide +kernel
theorem dX1_read_32 : decode cX1_read 32 = .ok (.aload_n 0, 1) := by decide +kernel
theorem dX1_read_33 : decode cX1_read 33 = .ok (.getfield 18, 3) := by decide +kernel
theorem dX1_read_36 : decode cX1_read 36 = .ok (.iload_n 1, 1) := by decide +kernel
theorem dX1_read_37 : decode cX1_read 37 = .ok (.iaload, 1) := by decide +kernel
theorem dX1_read_38 : decode cX1_read 38 = .ok (.if_icmp .le 12, 3) := by decide +kernel
theorem dX1_read_41 : decode cX1_read 41 = .ok (.aload_n 0, 1) := by decide +kernel
theorem dX1_read_42 : decode cX1_read 42 = .ok (.iload_n 1, 1) := by decide +kernel
theorem dX1_read_43 : decode cX1_read 43 = .ok (.iload_n 3, 1) := by decide +kernel
theorem dX1_read_44 : decode cX1_read 44 = .ok (.invokevirtual 123, 3) := by decide +kernel
theorem dX1_read_47 : decode cX1_read 47 = .ok (.iinc 2 1, 3) := by decide +kernel
theorem dX1_read_50 : decode cX1_read 50 = .ok (.iinc 3 1, 3) := by decide +kernel
theorem dX1_read_53 : decode cX1_read 53 = .ok (.goto (-49), 3) := by decide +kernel
theorem dX1_read_56 : decode cX1_read 56 = .ok (.aload_n 0, 1) := by decide +kernel
theorem dX1_read_57 : decode cX1_read 57 = .ok (.iload_n 1, 1) := by decide +kernel
theorem dX1_read_58 : decode cX1_read 58 = .ok (.invokevirtual 126, 3) := by decide +kernel
theorem dX1_read_61 : decode cX1_read 61 = .ok (.aload_n 0, 1) := by decide +kernel
theorem dX1_read_62 : decode cX1_read 62 = .ok (.getfield 15, 3) := by decide +kernel
theorem dX1_read_65 : decode cX1_read 65 = .ok (.iload_n 1, 1) := by decide +kernel
theorem dX1_read_66 : decode cX1_read 66 = .ok (.iaload, 1) := by decide +kernel
theorem dX1_read_67 : decode cX1_read 67 = .ok (.if_icmp .le 18, 3) := by decide +kernel
theorem dX1_read_70 : decode cX1_read 70 = .ok (.aload_n 0, 1) := by decide +kernel
theorem dX1_read_71 : decode cX1_read 71 = .ok (.iconst 0, 1) := by decide +kernel
theorem dX1_read_72 : decode cX1_read 72 = .ok (.iload_n 1, 1) := by decide +kernel
theorem dX1_read_73 : decode cX1_read 73 = .ok (.invokevirtual 123, 3) := by decide +kernel
theorem dX1_read_76 : decode cX1_read 76 = .ok (.aload_n 0, 1) := by decide +kernel
theorem dX1_read_77 : decode cX1_read 77 = .ok (.iload_n 1, 1) := by decide +kernel
theorem dX1_read_78 : decode cX1_read 78 = .ok (.iconst 0, 1) := by decide +kernel
theorem dX1_read_79 : decode cX1_read 79 = .ok (.invokevirtual 123, 3) := by decide +kernel
theorem dX1_read_82 : decode cX1_read 82 = .ok (.iinc 2 2, 3) := by decide +kernel
theorem dX1_read_85 : decode cX1_read 85 = .ok (.iload_n 2, 1) := by decide +kernel
theorem dX1_read_86 : decode cX1_read 86 = .ok (.ireturn, 1) := by decide +kernel
theorem dX1_move_0 : decode cX1_move 0 = .ok (.aload_n 0, 1) := by decide +kernel
theorem dX1_move_1 : decode cX1_move 1 = .ok (.getfield 30, 3) := by decide +kernel
theorem dX1_move_4 : decode cX1_move 4 = .ok (.iload_n 1, 1) := by decide +kernel
theorem dX1_move_5 : decode cX1_move 5 = .ok (.iload_n 2, 1) := by decide +kernel
theorem dX1_move_6 : decode cX1_move 6 = .ok (.invokestatic 74, 3) := by decide +kernel
theorem dX1_move_9 : decode cX1_move 9 = .ok (.dup2, 1) := by decide +kernel
theorem dX1_move_10 : decode cX1_move 10 = .ok (.iaload, 1) := by decide +kernel
theorem dX1_move_11 : decode cX1_move 11 = .ok (.iload 4, 2) := by decide +kernel
theorem dX1_move_13 : decode cX1_move 13 = .ok (.isub, 1) := by decide +kernel
theorem dX1_move_14 : decode cX1_move 14 = .ok (.iastore, 1) := by decide +kernel
theorem dX1_move_15 : decode cX1_move 15 = .ok (.aload_n 0, 1) := by decide +kernel
theorem dX1_move_16 : decode cX1_move 16 = .ok (.getfield 30, 3) := by decide +kernel
theorem dX1_move_19 : decode cX1_move 19 = .ok (.iload_n 1, 1) := by decide +kernel
theorem dX1_move_20 : decode cX1_move 20 = .ok (.iload_n 3, 1) := by decide +kernel
theorem dX1_move_21 : decode cX1_move 21 = .ok (.invokestatic 74, 3) := by decide +kernel
theorem dX1_move_24 : decode cX1_move 24 = .ok (.dup2, 1) := by decide +kernel
theorem dX1_move_25 : decode cX1_move 25 = .ok (.iaload, 1) := by decide +kernel
theorem dX1_move_26 : decode cX1_move 26 = .ok (.iload 4, 2) := by decide +kernel
theorem dX1_move_28 : decode cX1_move 28 = .ok (.iadd, 1) := by decide +kernel
theorem dX1_move_29 : decode cX1_move 29 = .ok (.iastore, 1) := by decide +kernel
theorem dX1_move_30 : decode cX1_move 30 = .ok (.aload_n 0, 1) := by decide +kernel
theorem dX1_move_31 : decode cX1_move 31 = .ok (.getfield 30, 3) := by decide +kernel
theorem dX1_move_34 : decode cX1_move 34 = .ok (.iload_n 1, 1) := by decide +kernel
theorem dX1_move_35 : decode cX1_move 35 = .ok (.iload_n 2, 1) := by decide +kernel
theorem dX1_move_36 : decode cX1_move 36 = .ok (.invokestatic 74, 3) := by decide +kernel
theorem dX1_move_39 : decode cX1_move 39 = .ok (.iaload, 1) := by decide +kernel
theorem dX1_move_40 : decode cX1_move 40 = .ok (.ireturn, 1) := by decide +kernel
theorem dX1_even_0 : decode cX1_even 0 = .ok (.iconst 0, 1) := by decide +kernel
theorem dX1_even_1 : decode cX1_even 1 = .ok (.istore_n 2, 1) := by decide +kernel
theorem dX1_even_2 : decode cX1_even 2 = .ok (.iconst 0, 1) := by decide +kernel
theorem dX1_even_3 : decode cX1_even 3 = .ok (.istore_n 3, 1) := by decide +kernel
theorem dX1_even_4 : decode cX1_even 4 = .ok (.iload_n 3, 1) := by decide +kernel
theorem dX1_even_5 : decode cX1_even 5 = .ok (.aload_n 0, 1) := by decide +kernel
theorem dX1_even_6 : decode cX1_even 6 = .ok (.getfield 48, 3) := by decide +kernel
theorem dX1_even_9 : decode cX1_even 9 = .ok (.if_icmp .ge 23, 3) := by decide +kernel
theorem dX1_even_12 : decode cX1_even 12 = .ok (.iload_n 3, 1) := by decide +kernel
theorem dX1_even_13 : decode cX1_even 13 = .ok (.iload_n 1, 1) := by decide +kernel
theorem dX1_even_14 : decode cX1_even 14 = .ok (.if_icmp .eq 12, 3) := by decide +kernel
theorem dX1_even_17 : decode cX1_even 17 = .ok (.iload_n 2, 1) := by decide +kernel
theorem dX1_even_18 : decode cX1_even 18 = .ok (.aload_n 0, 1) := by decide +kernel
theorem dX1_even_19 : decode cX1_even 19 = .ok (.iload_n 3, 1) := by decide +kernel
theorem dX1_even_20 : decode cX1_even 20 = .ok (.iload_n 1, 1) := by decide +kernel
theorem dX1_even_21 : decode cX1_even 21 = .ok (.invokevirtual 105, 3) := by decide +kernel
theorem dX1_even_24 : decode cX1_even 24 = .ok (.iadd, 1) := by decide +kernel
theorem dX1_even_25 : decode cX1_even 25 = .ok (.istore_n 2, 1) := by decide +kernel
theorem dX1_even_26 : decode cX1_even 26 = .ok (.iinc 3 1, 3) := by decide +kernel
theorem dX1_even_29 : decode cX1_even 29 = .ok (.goto (-25), 3) := by decide +kernel
theorem dX1_even_32 : decode cX1_even 32 = .ok (.iconst 0, 1) := by decide +kernel
theorem dX1_even_33 : decode cX1_even 33 = .ok (.istore_n 3, 1) := by decide +kernel
theorem dX1_even_34 : decode cX1_even 34 = .ok (.iload_n 3, 1) := by decide +kernel
theorem dX1_even_35 : decode cX1_even 35 = .ok (.aload_n 0, 1) := by decide +kernel
theorem dX1_even_36 : decode cX1_even 36 = .ok (.getfield 48, 3) := by decide +kernel
theorem dX1_even_39 : decode cX1_even 39 = .ok (.if_icmp .ge 38, 3) := by decide +kernel
theorem dX1_even_42 : decode cX1_even 42 = .ok (.iload_n 3, 1) := by decide +kernel
theorem dX1_even_43 : decode cX1_even 43 = .ok (.iload_n 1, 1) := by decide +kernel
theorem dX1_even_44 : decode cX1_even 44 = .ok (.if_icmp .eq 27, 3) := by decide +kernel
theorem dX1_even_47 : decode cX1_even 47 = .ok (.aload_n 0, 1) := by decide +kernel
theorem dX1_even_48 : decode cX1_even 48 = .ok (.getfield 30, 3) := by decide +kernel
theorem dX1_even_51 : decode cX1_even 51 = .ok (.iload_n 1, 1) := by decide +kernel
theorem dX1_even_52 : decode cX1_even 52 = .ok (.iload_n 3, 1) := by decide +kernel
theorem dX1_even_53 : decode cX1_even 53 = .ok (.invokestatic 74, 3) := by decide +kernel
theorem dX1_even_56 : decode cX1_even 56 = .ok (.aload_n 0, 1) := by decide +kernel
theorem dX1_even_57 : decode cX1_even 57 = .ok (.iload_n 3, 1) := by decide +kernel
theorem dX1_even_58 : decode cX1_even 58 = .ok (.iload_n 1, 1) := by decide +kernel
theorem dX1_even_59 : decode cX1_even 59 = .ok (.invokevirtual 102, 3) := by decide +kernel
theorem dX1_even_62 : decode cX1_even 62 = .ok (.aload_n 0, 1) := by decide +kernel
theorem dX1_even_63 : decode cX1_even 63 = .ok (.iload_n 2, 1) := by decide +kernel
theorem dX1_even_64 : decode cX1_even 64 = .ok (.iload_n 1, 1) := by decide +kernel
theorem dX1_even_65 : decode cX1_even 65 = .ok (.iload_n 3, 1) := by decide +kernel
theorem dX1_even_66 : decode cX1_even 66 = .ok (.invokevirtual 78, 3) := by decide +kernel
theorem dX1_even_69 : decode cX1_even 69 = .ok (.iadd, 1) := by decide +kernel
theorem dX1_even_70 : decode cX1_even 70 = .ok (.iastore, 1) := by decide +kernel
theorem dX1_even_71 : decode cX1_even 71 = .ok (.iinc 3 1, 3) := by decide +kernel
theorem dX1_even_74 : decode cX1_even 74 = .ok (.goto (-40), 3) := by decide +kernel
theorem dX1_even_77 : decode cX1_even 77 = .ok (.iload_n 2, 1) := by decide +kernel
theorem dX1_even_78 : decode cX1_even 78 = .ok (.ireturn, 1) := by decide +kernel
theorem dX1_bindAnew_0 : decode cX1_bindAnew 0 = .ok (.aload_n 0, 1) := by decide +kernel
theorem dX1_bindAnew_1 : decode cX1_bindAnew 1 = .ok (.getfield 9, 3) := by decide +kernel
theorem dX1_bindAnew_4 : decode cX1_bindAnew 4 = .ok (.iload_n 1, 1) := by decide +kernel
theorem dX1_bindAnew_5 : decode cX1_bindAnew 5 = .ok (.iaload, 1) := by decide +kernel
theorem dX1_bindAnew_6 : decode cX1_bindAnew 6 = .ok (.iload_n 2, 1) := by decide +kernel
theorem dX1_bindAnew_7 : decode cX1_bindAnew 7 = .ok (.if_icmp .eq 7, 3) := by decide +kernel
theorem dX1_bindAnew_10 : decode cX1_bindAnew 10 = .ok (.iconst 1, 1) := by decide +kernel
theorem dX1_bindAnew_11 : decode cX1_bindAnew 11 = .ok (.goto 4, 3) := by decide +kernel
theorem dX1_bindAnew_14 : decode cX1_bindAnew 14 = .ok (.iconst 0, 1) := by decide +kernel
theorem dX1_bindAnew_15 : decode cX1_bindAnew 15 = .ok (.istore 5, 2) := by decide +kernel
theorem dX1_bindAnew_17 : decode cX1_bindAnew 17 = .ok (.aload_n 0, 1) := by decide +kernel
theorem dX1_bindAnew_18 : decode cX1_bindAnew 18 = .ok (.iload_n 1, 1) := by decide +kernel
theorem dX1_bindAnew_19 : decode cX1_bindAnew 19 = .ok (.iload_n 2, 1) := by decide +kernel
theorem dX1_bindAnew_20 : decode cX1_bindAnew 20 = .ok (.iload_n 3, 1) := by decide +kernel
theorem dX1_bindAnew_21 : decode cX1_bindAnew 21 = .ok (.iload 4, 2) := by decide +kernel
theorem dX1_bindAnew_23 : decode cX1_bindAnew 23 = .ok (.invokevirtual 129, 3) := by decide +kernel
theorem dX1_bindAnew_26 : decode cX1_bindAnew 26 = .ok (.iload 5, 2) := by decide +kernel
theorem dX1_bindAnew_28 : decode cX1_bindAnew 28 = .ok (.ifCond .eq 8, 3) := by decide +kernel
theorem dX1_bindAnew_31 : decode cX1_bindAnew 31 = .ok (.aload_n 0, 1) := by decide +kernel
theorem dX1_bindAnew_32 : decode cX1_bindAnew 32 = .ok (.iload_n 1, 1) := by decide +kernel
theorem dX1_bindAnew_33 : decode cX1_bindAnew 33 = .ok (.invokevirtual 70, 3) := by decide +kernel
theorem dX1_bindAnew_36 : decode cX1_bindAnew 36 = .ok (.iconst 0, 1) := by decide +kernel
theorem dX1_bindAnew_37 : decode cX1_bindAnew 37 = .ok (.istore 6, 2) := by decide +kernel
theorem dX1_bindAnew_39 : decode cX1_bindAnew 39 = .ok (.iconst 0, 1) := by decide +kernel
theorem dX1_bindAnew_40 : decode cX1_bindAnew 40 = .ok (.istore 7, 2) := by decide +kernel
theorem dX1_bindAnew_42 : decode cX1_bindAnew 42 = .ok (.iload 7, 2) := by decide +kernel
theorem dX1_bindAnew_44 : decode cX1_bindAnew 44 = .ok (.aload_n 0, 1) := by decide +kernel
theorem dX1_bindAnew_45 : decode cX1_bindAnew 45 = .ok (.getfield 48, 3) := by decide +kernel
theorem dX1_bindAnew_48 : decode cX1_bindAnew 48 = .ok (.if_icmp .ge 28, 3) := by decide +kernel
theorem dX1_bindAnew_51 : decode cX1_bindAnew 51 = .ok (.iload 7, 2) := by decide +kernel
theorem dX1_bindAnew_53 : decode cX1_bindAnew 53 = .ok (.iload_n 1, 1) := by decide +kernel
theorem dX1_bindAnew_54 : decode cX1_bindAnew 54 = .ok (.if_icmp .eq 16, 3) := by decide +kernel
theorem dX1_bindAnew_57 : decode cX1_bindAnew 57 = .ok (.aload_n 0, 1) := by decide +kernel
theorem dX1_bindAnew_58 : decode cX1_bindAnew 58 = .ok (.iload 7, 2) := by decide +kernel
theorem dX1_bindAnew_60 : decode cX1_bindAnew 60 = .ok (.iload_n 1, 1) := by decide +kernel
theorem dX1_bindAnew_61 : decode cX1_bindAnew 61 = .ok (.invokevirtual 117, 3) := by decide +kernel
theorem dX1_bindAnew_64 : decode cX1_bindAnew 64 = .ok (.ifCond .eq 6, 3) := by decide +kernel
theorem dX1_bindAnew_67 : decode cX1_bindAnew 67 = .ok (.iinc 6 1, 3) := by decide +kernel
theorem dX1_bindAnew_70 : decode cX1_bindAnew 70 = .ok (.iinc 7 1, 3) := by decide +kernel
theorem dX1_bindAnew_73 : decode cX1_bindAnew 73 = .ok (.goto (-31), 3) := by decide +kernel
theorem dX1_bindAnew_76 : decode cX1_bindAnew 76 = .ok (.iload 6, 2) := by decide +kernel
theorem dX1_bindAnew_78 : decode cX1_bindAnew 78 = .ok (.ireturn, 1) := by decide +kernel
theorem dX2_init_0 : decode cX2_init 0 = .ok (.aload_n 0, 1) := by decide +kernel
theorem dX2_init_1 : decode cX2_init 1 = .ok (.invokespecial 3, 3) := by decide +kernel
theorem dX2_init_4 : decode cX2_init 4 = .ok (.aload_n 0, 1) := by decide +kernel
theorem dX2_init_5 : decode cX2_init 5 = .ok (.bipush 80, 2) := by decide +kernel
theorem dX2_init_7 : decode cX2_init 7 = .ok (.newarray .char, 2) := by decide +kernel
theorem dX2_init_9 : decode cX2_init 9 = .ok (.putfield 9, 3) := by decide +kernel
theorem dX2_init_12 : decode cX2_init 12 = .ok (.aload_n 0, 1) := by decide +kernel
theorem dX2_init_13 : decode cX2_init 13 = .ok (.iconst 0, 1) := by decide +kernel
theorem dX2_init_14 : decode cX2_init 14 = .ok (.putfield 15, 3) := by decide +kernel
theorem dX2_init_17 : decode cX2_init 17 = .ok (.aload_n 0, 1) := by decide +kernel
theorem dX2_init_18 : decode cX2_init 18 = .ok (.bipush 81, 2) := by decide +kernel
theorem dX2_init_20 : decode cX2_init 20 = .ok (.newarray .int, 2) := by decide +kernel
theorem dX2_init_22 : decode cX2_init 22 = .ok (.putfield 19, 3) := by decide +kernel
theorem dX2_init_25 : decode cX2_init 25 = .ok (.aload_n 0, 1) := by decide +kernel
theorem dX2_init_26 : decode cX2_init 26 = .ok (.bipush 81, 2) := by decide +kernel
theorem dX2_init_28 : decode cX2_init 28 = .ok (.newarray .int, 2) := by decide +kernel
theorem dX2_init_30 : decode cX2_init 30 = .ok (.putfield 23, 3) := by decide +kernel
theorem dX2_init_33 : decode cX2_init 33 = .ok (.aload_n 0, 1) := by decide +kernel
theorem dX2_init_34 : decode cX2_init 34 = .ok (.bipush 81, 2) := by decide +kernel
theorem dX2_init_36 : decode cX2_init 36 = .ok (.newarray .int, 2) := by decide +kernel
theorem dX2_init_38 : decode cX2_init 38 = .ok (.putfield 26, 3) := by decide +kernel
theorem dX2_init_41 : decode cX2_init 41 = .ok (.aload_n 0, 1) := by decide +kernel
theorem dX2_init_42 : decode cX2_init 42 = .ok (.iconst 0, 1) := by decide +kernel
theorem dX2_init_43 : decode cX2_init 43 = .ok (.putfield 29, 3) := by decide +kernel
theorem dX2_init_46 : decode cX2_init 46 = .ok (.return_, 1) := by decide +kernel
theorem dX2_add_0 : decode cX2_add 0 = .ok (.aload_n 0, 1) := by decide +kernel
theorem dX2_add_1 : decode cX2_add 1 = .ok (.getfield 9, 3) := by decide +kernel
theorem dX2_add_4 : decode cX2_add 4 = .ok (.aload_n 0, 1) := by decide +kernel
theorem dX2_add_5 : decode cX2_add 5 = .ok (.getfield 15, 3) := by decide +kernel
theorem dX2_add_8 : decode cX2_add 8 = .ok (.iload_n 1, 1) := by decide +kernel
theorem dX2_add_9 : decode cX2_add 9 = .ok (.castore, 1) := by decide +kernel
theorem dX2_add_10 : decode cX2_add 10 = .ok (.aload_n 0, 1) := by decide +kernel
theorem dX2_add_11 : decode cX2_add 11 = .ok (.dup, 1) := by decide +kernel
theorem dX2_add_12 : decode cX2_add 12 = .ok (.getfield 15, 3) := by decide +kernel
theorem dX2_add_15 : decode cX2_add 15 = .ok (.iconst 1, 1) := by decide +kernel
theorem dX2_add_16 : decode cX2_add 16 = .ok (.iadd, 1) := by decide +kernel
theorem dX2_add_17 : decode cX2_add 17 = .ok (.putfield 15, 3) := by decide +kernel
theorem dX2_add_20 : decode cX2_add 20 = .ok (.return_, 1) := by decide +kernel
theorem dX2_drop_0 : decode cX2_drop 0 = .ok (.aload_n 0, 1) := by decide +kernel
theorem dX2_drop_1 : decode cX2_drop 1 = .ok (.getfield 15, 3) := by decide +kernel
theorem dX2_drop_4 : decode cX2_drop 4 = .ok (.istore_n 1, 1) := by decide +kernel
theorem dX2_drop_5 : decode cX2_drop 5 = .ok (.aload_n 0, 1) := by decide +kernel
theorem dX2_drop_6 : decode cX2_drop 6 = .ok (.iconst 0, 1) := by decide +kernel
theorem dX2_drop_7 : decode cX2_drop 7 = .ok (.putfield 15, 3) := by decide +kernel
theorem dX2_drop_10 : decode cX2_drop 10 = .ok (.iload_n 1, 1) := by decide +kernel
theorem dX2_drop_11 : decode cX2_drop 11 = .ok (.ireturn, 1) := by decide +kernel
theorem dX2_tellInto_0 : decode cX2_tellInto 0 = .ok (.aload_n 0, 1) := by decide +kernel
theorem dX2_tellInto_1 : decode cX2_tellInto 1 = .ok (.invokevirtual 32, 3) := by decide +kernel
theorem dX2_tellInto_4 : decode cX2_tellInto 4 = .ok (.aload_n 1, 1) := by decide +kernel
theorem dX2_tellInto_5 : decode cX2_tellInto 5 = .ok (.invokevirtual 35, 3) := by decide +kernel
theorem dX2_tellInto_8 : decode cX2_tellInto 8 = .ok (.aload_n 0, 1) := by decide +kernel
theorem dX2_tellInto_9 : decode cX2_tellInto 9 = .ok (.iconst 0, 1) := by decide +kernel
theorem dX2_tellInto_10 : decode cX2_tellInto 10 = .ok (.putfield 29, 3) := by decide +kernel
theorem dX2_tellInto_13 : decode cX2_tellInto 13 = .ok (.iconst 0, 1) := by decide +kernel
theorem dX2_tellInto_14 : decode cX2_tellInto 14 = .ok (.istore_n 2, 1) := by decide +kernel
theorem dX2_tellInto_15 : decode cX2_tellInto 15 = .ok (.aload_n 0, 1) := by decide +kernel
theorem dX2_tellInto_16 : decode cX2_tellInto 16 = .ok (.getfield 19, 3) := by decide +kernel
theorem dX2_tellInto_19 : decode cX2_tellInto 19 = .ok (.aload_n 0, 1) := by decide +kernel
theorem dX2_tellInto_20 : decode cX2_tellInto 20 = .ok (.getfield 29, 3) := by decide +kernel
theorem dX2_tellInto_23 : decode cX2_tellInto 23 = .ok (.iaload, 1) := by decide +kernel
theorem dX2_tellInto_24 : decode cX2_tellInto 24 = .ok (.ifCond .eq 45, 3) := by decide +kernel
theorem dX2_tellInto_27 : decode cX2_tellInto 27 = .ok (.iload_n 2, 1) := by decide +kernel
theorem dX2_tellInto_28 : decode cX2_tellInto 28 = .ok (.bipush 80, 2) := by decide +kernel
theorem dX2_tellInto_30 : decode cX2_tellInto 30 = .ok (.if_icmp .ge 39, 3) := by decide +kernel
theorem dX2_tellInto_33 : decode cX2_tellInto 33 = .ok (.aload_n 0, 1) := by decide +kernel
theorem dX2_tellInto_34 : decode cX2_tellInto 34 = .ok (.aload_n 1, 1) := by decide +kernel
theorem dX2_tellInto_35 : decode cX2_tellInto 35 = .ok (.iload_n 2, 1) := by decide +kernel
theorem dX2_tellInto_36 : decode cX2_tellInto 36 = .ok (.ifCond .ne 7, 3) := by decide +kernel
theorem dX2_tellInto_39 : decode cX2_tellInto 39 = .ok (.iconst 1, 1) := by decide +kernel
theorem dX2_tellInto_40 : decode cX2_tellInto 40 = .ok (.goto 4, 3) := by decide +kernel
theorem dX2_tellInto_43 : decode cX2_tellInto 43 = .ok (.iconst 0, 1) := by decide +kernel
theorem dX2_tellInto_44 : decode cX2_tellInto 44 = .ok (.invokevirtual 40, 3) := by decide +kernel
theorem dX2_tellInto_47 : decode cX2_tellInto 47 = .ok (.ifCond .ne 16, 3) := by decide +kernel
theorem dX2_tellInto_50 : decode cX2_tellInto 50 = .ok (.bipush (-10), 2) := by decide +kernel
theorem dX2_tellInto_52 : decode cX2_tellInto 52 = .ok (.aload_n 0, 1) := by decide +kernel
theorem dX2_tellInto_53 : decode cX2_tellInto 53 = .ok (.getfield 23, 3) := by decide +kernel
theorem dX2_tellInto_56 : decode cX2_tellInto 56 = .ok (.aload_n 0, 1) := by decide +kernel
theorem dX2_tellInto_57 : decode cX2_tellInto 57 = .ok (.getfield 29, 3) := by decide +kernel
theorem dX2_tellInto_60 : decode cX2_tellInto 60 = .ok (.iaload, 1) := by decide +kernel
theorem dX2_tellInto_61 : decode cX2_tellInto 61 = .ok (.isub, 1) := by decide +kernel
theorem dX2_tellInto_62 : decode cX2_tellInto 62 = .ok (.ireturn, 1) := by decide +kernel
theorem dX2_tellInto_63 : decode cX2_tellInto 63 = .ok (.iinc 2 1, 3) := by decide +kernel
theorem dX2_tellInto_66 : decode cX2_tellInto 66 = .ok (.goto (-51), 3) := by decide +kernel
theorem dX2_tellInto_69 : decode cX2_tellInto 69 = .ok (.aload_n 1, 1) := by decide +kernel
theorem dX2_tellInto_70 : decode cX2_tellInto 70 = .ok (.invokevirtual 44, 3) := by decide +kernel
theorem dX2_tellInto_73 : decode cX2_tellInto 73 = .ok (.iload_n 2, 1) := by decide +kernel
theorem dX2_tellInto_74 : decode cX2_tellInto 74 = .ok (.ireturn, 1) := by decide +kernel
theorem dX2_tellItem_0 : decode cX2_tellItem 0 = .ok (.iload_n 2, 1) := by decide +kernel
theorem dX2_tellItem_1 : decode cX2_tellItem 1 = .ok (.ifCond .eq 17, 3) := by decide +kernel
theorem dX2_tellItem_4 : decode cX2_tellItem 4 = .ok (.aload_n 0, 1) := by decide +kernel
theorem dX2_tellItem_5 : decode cX2_tellItem 5 = .ok (.iconst 1, 1) := by decide +kernel
theorem dX2_tellItem_6 : decode cX2_tellItem 6 = .ok (.invokevirtual 47, 3) := by decide +kernel
theorem dX2_tellItem_9 : decode cX2_tellItem 9 = .ok (.ifCond .eq 9, 3) := by decide +kernel
theorem dX2_tellItem_12 : decode cX2_tellItem 12 = .ok (.aload_n 0, 1) := by decide +kernel
theorem dX2_tellItem_13 : decode cX2_tellItem 13 = .ok (.aload_n 1, 1) := by decide +kernel
theorem dX2_tellItem_14 : decode cX2_tellItem 14 = .ok (.invokevirtual 51, 3) := by decide +kernel
theorem dX2_tellItem_17 : decode cX2_tellItem 17 = .ok (.ireturn, 1) := by decide +kernel
theorem dX2_tellItem_18 : decode cX2_tellItem 18 = .ok (.aload_n 0, 1) := by decide +kernel
theorem dX2_tellItem_19 : decode cX2_tellItem 19 = .ok (.iconst 2, 1) := by decide +kernel
theorem dX2_tellItem_20 : decode cX2_tellItem 20 = .ok (.invokevirtual 47, 3) := by decide +kernel
theorem dX2_tellItem_23 : decode cX2_tellItem 23 = .ok (.ifCond .eq 15, 3) := by decide +kernel
theorem dX2_tellItem_26 : decode cX2_tellItem 26 = .ok (.aload_n 0, 1) := by decide +kernel
theorem dX2_tellItem_27 : decode cX2_tellItem 27 = .ok (.aload_n 1, 1) := by decide +kernel
theorem dX2_tellItem_28 : decode cX2_tellItem 28 = .ok (.invokevirtual 55, 3) := by decide +kernel
theorem dX2_tellItem_31 : decode cX2_tellItem 31 = .ok (.ifCond .eq 7, 3) := by decide +kernel
theorem dX2_tellItem_34 : decode cX2_tellItem 34 = .ok (.iconst 1, 1) := by decide +kernel
theorem dX2_tellItem_35 : decode cX2_tellItem 35 = .ok (.goto 4, 3) := by decide +kernel
theorem dX2_tellItem_38 : decode cX2_tellItem 38 = .ok (.iconst 0, 1) := by decide +kernel
theorem dX2_tellItem_39 : decode cX2_tellItem 39 = .ok (.ireturn, 1) := by decide +kernel
theorem dX2_tellCopies_0 : decode cX2_tellCopies 0 = .ok (.aload_n 0, 1) := by decide +kernel
theorem dX2_tellCopies_1 : decode cX2_tellCopies 1 = .ok (.iconst 2, 1) := by decide +kernel
theorem dX2_tellCopies_2 : decode cX2_tellCopies 2 = .ok (.iconst 4, 1) := by decide +kernel
theorem dX2_tellCopies_3 : decode cX2_tellCopies 3 = .ok (.invokevirtual 58, 3) := by decide +kernel
theorem dX2_tellCopies_6 : decode cX2_tellCopies 6 = .ok (.ifCond .ne 5, 3) := by decide +kernel
theorem dX2_tellCopies_9 : decode cX2_tellCopies 9 = .ok (.iconst 0, 1) := by decide +kernel
theorem dX2_tellCopies_10 : decode cX2_tellCopies 10 = .ok (.ireturn, 1) := by decide +kernel
theorem dX2_tellCopies_11 : decode cX2_tellCopies 11 = .ok (.aload_n 1, 1) := by decide +kernel
theorem dX2_tellCopies_12 : decode cX2_tellCopies 12 = .ok (.aload_n 0, 1) := by decide +kernel
theorem dX2_tellCopies_13 : decode cX2_tellCopies 13 = .ok (.getfield 26, 3) := by decide +kernel
theorem dX2_tellCopies_16 : decode cX2_tellCopies 16 = .ok (.aload_n 0, 1) := by decide +kernel
theorem dX2_tellCopies_17 : decode cX2_tellCopies 17 = .ok (.getfield 29, 3) := by decide +kernel
theorem dX2_tellCopies_20 : decode cX2_tellCopies 20 = .ok (.iconst 1, 1) := by decide +kernel
theorem dX2_tellCopies_21 : decode cX2_tellCopies 21 = .ok (.isub, 1) := by decide +kernel
theorem dX2_tellCopies_22 : decode cX2_tellCopies 22 = .ok (.iaload, 1) := by decide +kernel
theorem dX2_tellCopies_23 : decode cX2_tellCopies 23 = .ok (.putfield 62, 3) := by decide +kernel
theorem dX2_tellCopies_26 : decode cX2_tellCopies 26 = .ok (.aload_n 0, 1) := by decide +kernel
theorem dX2_tellCopies_27 : decode cX2_tellCopies 27 = .ok (.iconst 4, 1) := by decide +kernel
theorem dX2_tellCopies_28 : decode cX2_tellCopies 28 = .ok (.invokevirtual 47, 3) := by decide +kernel
theorem dX2_tellCopies_31 : decode cX2_tellCopies 31 = .ok (.ireturn, 1) := by decide +kernel
theorem dX2_tellBounds_0 : decode cX2_tellBounds 0 = .ok (.aload_n 0, 1) := by decide +kernel
theorem dX2_tellBounds_1 : decode cX2_tellBounds 1 = .ok (.iconst 0, 1) := by decide +kernel
theorem dX2_tellBounds_2 : decode cX2_tellBounds 2 = .ok (.aload_n 1, 1) := by decide +kernel
theorem dX2_tellBounds_3 : decode cX2_tellBounds 3 = .ok (.getfield 62, 3) := by decide +kernel
theorem dX2_tellBounds_6 : decode cX2_tellBounds 6 = .ok (.iconst 1, 1) := by decide +kernel
theorem dX2_tellBounds_7 : decode cX2_tellBounds 7 = .ok (.isub, 1) := by decide +kernel
theorem dX2_tellBounds_8 : decode cX2_tellBounds 8 = .ok (.invokevirtual 58, 3) := by decide +kernel
theorem dX2_tellBounds_11 : decode cX2_tellBounds 11 = .ok (.ifCond .eq 37, 3) := by decide +kernel
theorem dX2_tellBounds_14 : decode cX2_tellBounds 14 = .ok (.aload_n 0, 1) := by decide +kernel
theorem dX2_tellBounds_15 : decode cX2_tellBounds 15 = .ok (.iconst 0, 1) := by decide +kernel
theorem dX2_tellBounds_16 : decode cX2_tellBounds 16 = .ok (.bipush 99, 2) := by decide +kernel
theorem dX2_tellBounds_18 : decode cX2_tellBounds 18 = .ok (.invokevirtual 58, 3) := by decide +kernel
theorem dX2_tellBounds_21 : decode cX2_tellBounds 21 = .ok (.ifCond .eq 27, 3) := by decide +kernel
theorem dX2_tellBounds_24 : decode cX2_tellBounds 24 = .ok (.aload_n 0, 1) := by decide +kernel
theorem dX2_tellBounds_25 : decode cX2_tellBounds 25 = .ok (.iconst 0, 1) := by decide +kernel
theorem dX2_tellBounds_26 : decode cX2_tellBounds 26 = .ok (.bipush 9, 2) := by decide +kernel
theorem dX2_tellBounds_28 : decode cX2_tellBounds 28 = .ok (.invokevirtual 58, 3) := by decide +kernel
theorem dX2_tellBounds_31 : decode cX2_tellBounds 31 = .ok (.ifCond .eq 17, 3) := by decide +kernel
theorem dX2_tellBounds_34 : decode cX2_tellBounds 34 = .ok (.aload_n 0, 1) := by decide +kernel
theorem dX2_tellBounds_35 : decode cX2_tellBounds 35 = .ok (.iconst 0, 1) := by decide +kernel
theorem dX2_tellBounds_36 : decode cX2_tellBounds 36 = .ok (.bipush 99, 2) := by decide +kernel
theorem dX2_tellBounds_38 : decode cX2_tellBounds 38 = .ok (.invokevirtual 58, 3) := by decide +kernel
theorem dX2_tellBounds_41 : decode cX2_tellBounds 41 = .ok (.ifCond .eq 7, 3) := by decide +kernel
theorem dX2_tellBounds_44 : decode cX2_tellBounds 44 = .ok (.iconst 1, 1) := by decide +kernel
theorem dX2_tellBounds_45 : decode cX2_tellBounds 45 = .ok (.goto 4, 3) := by decide +kernel
theorem dX2_tellBounds_48 : decode cX2_tellBounds 48 = .ok (.iconst 0, 1) := by decide +kernel
theorem dX2_tellBounds_49 : decode cX2_tellBounds 49 = .ok (.istore_n 2, 1) := by decide +kernel
theorem dX2_tellBounds_50 : decode cX2_tellBounds 50 = .ok (.iload_n 2, 1) := by decide +kernel
theorem dX2_tellBounds_51 : decode cX2_tellBounds 51 = .ok (.ifCond .ne 5, 3) := by decide +kernel
theorem dX2_tellBounds_54 : decode cX2_tellBounds 54 = .ok (.iconst 0, 1) := by decide +kernel
theorem dX2_tellBounds_55 : decode cX2_tellBounds 55 = .ok (.ireturn, 1) := by decide +kernel
theorem dX2_tellBounds_56 : decode cX2_tellBounds 56 = .ok (.aload_n 1, 1) := by decide +kernel
theorem dX2_tellBounds_57 : decode cX2_tellBounds 57 = .ok (.aload_n 0, 1) := by decide +kernel
theorem dX2_tellBounds_58 : decode cX2_tellBounds 58 = .ok (.getfield 26, 3) := by decide +kernel
theorem dX2_tellBounds_61 : decode cX2_tellBounds 61 = .ok (.aload_n 0, 1) := by decide +kernel
theorem dX2_tellBounds_62 : decode cX2_tellBounds 62 = .ok (.getfield 29, 3) := by decide +kernel
theorem dX2_tellBounds_65 : decode cX2_tellBounds 65 = .ok (.iconst 4, 1) := by decide +kernel
theorem dX2_tellBounds_66 : decode cX2_tellBounds 66 = .ok (.isub, 1) := by decide +kernel
theorem dX2_tellBounds_67 : decode cX2_tellBounds 67 = .ok (.iaload, 1) := by decide +kernel
theorem dX2_tellBounds_68 : decode cX2_tellBounds 68 = .ok (.aload_n 0, 1) := by decide +kernel
theorem dX2_tellBounds_69 : decode cX2_tellBounds 69 = .ok (.getfield 26, 3) := by decide +kernel
theorem dX2_tellBounds_72 : decode cX2_tellBounds 72 = .ok (.aload_n 0, 1) := by decide +kernel
theorem dX2_tellBounds_73 : decode cX2_tellBounds 73 = .ok (.getfield 29, 3) := by decide +kernel
theorem dX2_tellBounds_76 : decode cX2_tellBounds 76 = .ok (.iconst 3, 1) := by decide +kernel
theorem dX2_tellBounds_77 : decode cX2_tellBounds 77 = .ok (.isub, 1) := by decide +kernel
theorem dX2_tellBounds_78 : decode cX2_tellBounds 78 = .ok (.iaload, 1) := by decide +kernel
theorem dX2_tellBounds_79 : decode cX2_tellBounds 79 = .ok (.aload_n 0, 1) := by decide +kernel
theorem dX2_tellBounds_80 : decode cX2_tellBounds 80 = .ok (.getfield 26, 3) := by decide +kernel
theorem dX2_tellBounds_83 : decode cX2_tellBounds 83 = .ok (.aload_n 0, 1) := by decide +kernel
theorem dX2_tellBounds_84 : decode cX2_tellBounds 84 = .ok (.getfield 29, 3) := by decide +kernel
theorem dX2_tellBounds_87 : decode cX2_tellBounds 87 = .ok (.iconst 2, 1) := by decide +kernel
theorem dX2_tellBounds_88 : decode cX2_tellBounds 88 = .ok (.isub, 1) := by decide +kernel
theorem dX2_tellBounds_89 : decode cX2_tellBounds 89 = .ok (.iaload, 1) := by decide +kernel
theorem dX2_tellBounds_90 : decode cX2_tellBounds 90 = .ok (.aload_n 0, 1) := by decide +kernel
theorem dX2_tellBounds_91 : decode cX2_tellBounds 91 = .ok (.getfield 26, 3) := by decide +kernel
theorem dX2_tellBounds_94 : decode cX2_tellBounds 94 = .ok (.aload_n 0, 1) := by decide +kernel
theorem dX2_tellBounds_95 : decode cX2_tellBounds 95 = .ok (.getfield 29, 3) := by decide +kernel
theorem dX2_tellBounds_98 : decode cX2_tellBounds 98 = .ok (.iconst 1, 1) := by decide +kernel
theorem dX2_tellBounds_99 : decode cX2_tellBounds 99 = .ok (.isub, 1) := by decide +kernel
theorem dX2_tellBounds_100 : decode cX2_tellBounds 100 = .ok (.iaload, 1) := by decide +kernel
theorem dX2_tellBounds_101 : decode cX2_tellBounds 101 = .ok (.invokevirtual 65, 3) := by decide +kernel
theorem dX2_tellBounds_104 : decode cX2_tellBounds 104 = .ok (.aload_n 0, 1) := by decide +kernel
theorem dX2_tellBounds_105 : decode cX2_tellBounds 105 = .ok (.iconst 4, 1) := by decide +kernel
theorem dX2_tellBounds_106 : decode cX2_tellBounds 106 = .ok (.invokevirtual 47, 3) := by decide +kernel
theorem dX2_tellBounds_109 : decode cX2_tellBounds 109 = .ok (.ireturn, 1) := by decide +kernel
theorem dX2_passKind_0 : decode cX2_passKind 0 = .ok (.aload_n 0, 1) := by decide +kernel
theorem dX2_passKind_1 : decode cX2_passKind 1 = .ok (.getfield 19, 3) := by decide +kernel
theorem dX2_passKind_4 : decode cX2_passKind 4 = .ok (.aload_n 0, 1) := by decide +kernel
theorem dX2_passKind_5 : decode cX2_passKind 5 = .ok (.getfield 29, 3) := by decide +kernel
theorem dX2_passKind_8 : decode cX2_passKind 8 = .ok (.iaload, 1) := by decide +kernel
theorem dX2_passKind_9 : decode cX2_passKind 9 = .ok (.iload_n 1, 1) := by decide +kernel
theorem dX2_passKind_10 : decode cX2_passKind 10 = .ok (.if_icmp .eq 5, 3) := by decide +kernel
theorem dX2_passKind_13 : decode cX2_passKind 13 = .ok (.iconst 0, 1) := by decide +kernel
theorem dX2_passKind_14 : decode cX2_passKind 14 = .ok (.ireturn, 1) := by decide +kernel
theorem dX2_passKind_15 : decode cX2_passKind 15 = .ok (.aload_n 0, 1) := by decide +kernel
theorem dX2_passKind_16 : decode cX2_passKind 16 = .ok (.dup, 1) := by decide +kernel
theorem dX2_passKind_17 : decode cX2_passKind 17 = .ok (.getfield 29, 3) := by decide +kernel
theorem dX2_passKind_20 : decode cX2_passKind 20 = .ok (.iconst 1, 1) := by decide +kernel
theorem dX2_passKind_21 : decode cX2_passKind 21 = .ok (.iadd, 1) := by decide +kernel
theorem dX2_passKind_22 : decode cX2_passKind 22 = .ok (.putfield 29, 3) := by decide +kernel
theorem dX2_passKind_25 : decode cX2_passKind 25 = .ok (.iconst 1, 1) := by decide +kernel
theorem dX2_passKind_26 : decode cX2_passKind 26 = .ok (.ireturn, 1) := by decide +kernel
theorem dX2_passNumber_0 : decode cX2_passNumber 0 = .ok (.aload_n 0, 1) := by decide +kernel
theorem dX2_passNumber_1 : decode cX2_passNumber 1 = .ok (.getfield 19, 3) := by decide +kernel
theorem dX2_passNumber_4 : decode cX2_passNumber 4 = .ok (.aload_n 0, 1) := by decide +kernel
theorem dX2_passNumber_5 : decode cX2_passNumber 5 = .ok (.getfield 29, 3) := by decide +kernel
theorem dX2_passNumber_8 : decode cX2_passNumber 8 = .ok (.iaload, 1) := by decide +kernel
theorem dX2_passNumber_9 : decode cX2_passNumber 9 = .ok (.iconst 3, 1) := by decide +kernel
theorem dX2_passNumber_10 : decode cX2_passNumber 10 = .ok (.if_icmp .ne 29, 3) := by decide +kernel
theorem dX2_passNumber_13 : decode cX2_passNumber 13 = .ok (.aload_n 0, 1) := by decide +kernel
theorem dX2_passNumber_14 : decode cX2_passNumber 14 = .ok (.getfield 26, 3) := by decide +kernel
theorem dX2_passNumber_17 : decode cX2_passNumber 17 = .ok (.aload_n 0, 1) := by decide +kernel
theorem dX2_passNumber_18 : decode cX2_passNumber 18 = .ok (.getfield 29, 3) := by decide +kernel
theorem dX2_passNumber_21 : decode cX2_passNumber 21 = .ok (.iaload, 1) := by decide +kernel
theorem dX2_passNumber_22 : decode cX2_passNumber 22 = .ok (.iload_n 1, 1) := by decide +kernel
theorem dX2_passNumber_23 : decode cX2_passNumber 23 = .ok (.if_icmp .lt 16, 3) := by decide +kernel
theorem dX2_passNumber_26 : decode cX2_passNumber 26 = .ok (.aload_n 0, 1) := by decide +kernel
theorem dX2_passNumber_27 : decode cX2_passNumber 27 = .ok (.getfield 26, 3) := by decide +kernel
theorem dX2_passNumber_30 : decode cX2_passNumber 30 = .ok (.aload_n 0, 1) := by decide +kernel
theorem dX2_passNumber_31 : decode cX2_passNumber 31 = .ok (.getfield 29, 3) := by decide +kernel
theorem dX2_passNumber_34 : decode cX2_passNumber 34 = .ok (.iaload, 1) := by decide +kernel
theorem dX2_passNumber_35 : decode cX2_passNumber 35 = .ok (.iload_n 2, 1) := by decide +kernel
theorem dX2_passNumber_36 : decode cX2_passNumber 36 = .ok (.if_icmp .le 5, 3) := by decide +kernel
theorem dX2_passNumber_39 : decode cX2_passNumber 39 = .ok (.iconst 0, 1) := by decide +kernel
theorem dX2_passNumber_40 : decode cX2_passNumber 40 = .ok (.ireturn, 1) := by decide +kernel
theorem dX2_passNumber_41 : decode cX2_passNumber 41 = .ok (.aload_n 0, 1) := by decide +kernel
theorem dX2_passNumber_42 : decode cX2_passNumber 42 = .ok (.dup, 1) := by decide +kernel
theorem dX2_passNumber_43 : decode cX2_passNumber 43 = .ok (.getfield 29, 3) := by decide +kernel
theorem dX2_passNumber_46 : decode cX2_passNumber 46 = .ok (.iconst 1, 1) := by decide +kernel
theorem dX2_passNumber_47 : decode cX2_passNumber 47 = .ok (.iadd, 1) := by decide +kernel
theorem dX2_passNumber_48 : decode cX2_passNumber 48 = .ok (.putfield 29, 3) := by decide +kernel
theorem dX2_passNumber_51 : decode cX2_passNumber 51 = .ok (.iconst 1, 1) := by decide +kernel
theorem dX2_passNumber_52 : decode cX2_passNumber 52 = .ok (.ireturn, 1) := by decide +kernel
theorem dX2_findTokens_0 : decode cX2_findTokens 0 = .ok (.iconst 0, 1) := by decide +kernel
theorem dX2_findTokens_1 : decode cX2_findTokens 1 = .ok (.istore_n 1, 1) := by decide +kernel
theorem dX2_findTokens_2 : decode cX2_findTokens 2 = .ok (.iconst 0, 1) := by decide +kernel
theorem dX2_findTokens_3 : decode cX2_findTokens 3 = .ok (.istore_n 2, 1) := by decide +kernel
theorem dX2_findTokens_4 : decode cX2_findTokens 4 = .ok (.iload_n 2, 1) := by decide +kernel
theorem dX2_findTokens_5 : decode cX2_findTokens 5 = .ok (.aload_n 0, 1) := by decide +kernel
theorem dX2_findTokens_6 : decode cX2_findTokens 6 = .ok (.getfield 15, 3) := by decide +kernel
theorem dX2_findTokens_9 : decode cX2_findTokens 9 = .ok (.if_icmp .ge 46, 3) := by decide +kernel
theorem dX2_findTokens_12 : decode cX2_findTokens 12 = .ok (.iload_n 1, 1) := by decide +kernel
theorem dX2_findTokens_13 : decode cX2_findTokens 13 = .ok (.bipush 80, 2) := by decide +kernel
theorem dX2_findTokens_15 : decode cX2_findTokens 15 = .ok (.if_icmp .ge 40, 3) := by decide +kernel
theorem dX2_findTokens_18 : decode cX2_findTokens 18 = .ok (.aload_n 0, 1) := by decide +kernel
theorem dX2_findTokens_19 : decode cX2_findTokens 19 = .ok (.getfield 9, 3) := by decide +kernel
theorem dX2_findTokens_22 : decode cX2_findTokens 22 = .ok (.iload_n 2, 1) := by decide +kernel
theorem dX2_findTokens_23 : decode cX2_findTokens 23 = .ok (.caload, 1) := by decide +kernel
theorem dX2_findTokens_24 : decode cX2_findTokens 24 = .ok (.bipush 32, 2) := by decide +kernel
theorem dX2_findTokens_26 : decode cX2_findTokens 26 = .ok (.if_icmp .ne 9, 3) := by decide +kernel
theorem dX2_findTokens_29 : decode cX2_findTokens 29 = .ok (.iinc 2 1, 3) := by decide +kernel
theorem dX2_findTokens_32 : decode cX2_findTokens 32 = .ok (.goto (-28), 3) := by decide +kernel
theorem dX2_findTokens_35 : decode cX2_findTokens 35 = .ok (.aload_n 0, 1) := by decide +kernel
theorem dX2_findTokens_36 : decode cX2_findTokens 36 = .ok (.getfield 23, 3) := by decide +kernel
theorem dX2_findTokens_39 : decode cX2_findTokens 39 = .ok (.iload_n 1, 1) := by decide +kernel
theorem dX2_findTokens_40 : decode cX2_findTokens 40 = .ok (.iload_n 2, 1) := by decide +kernel
theorem dX2_findTokens_41 : decode cX2_findTokens 41 = .ok (.iastore, 1) := by decide +kernel
theorem dX2_findTokens_42 : decode cX2_findTokens 42 = .ok (.aload_n 0, 1) := by decide +kernel
theorem dX2_findTokens_43 : decode cX2_findTokens 43 = .ok (.iload_n 1, 1) := by decide +kernel
theorem dX2_findTokens_44 : decode cX2_findTokens 44 = .ok (.iload_n 2, 1) := by decide +kernel
theorem dX2_findTokens_45 : decode cX2_findTokens 45 = .ok (.invokevirtual 69, 3) := by decide +kernel
theorem dX2_findTokens_48 : decode cX2_findTokens 48 = .ok (.istore_n 2, 1) := by decide +kernel
theorem dX2_findTokens_49 : decode cX2_findTokens 49 = .ok (.iinc 1 1, 3) := by decide +kernel
theorem dX2_findTokens_52 : decode cX2_findTokens 52 = .ok (.goto (-48), 3) := by decide +kernel
theorem dX2_findTokens_55 : decode cX2_findTokens 55 = .ok (.aload_n 0, 1) := by decide +kernel
theorem dX2_findTokens_56 : decode cX2_findTokens 56 = .ok (.getfield 19, 3) := by decide +kernel
theorem dX2_findTokens_59 : decode cX2_findTokens 59 = .ok (.iload_n 1, 1) := by decide +kernel
theorem dX2_findTokens_60 : decode cX2_findTokens 60 = .ok (.iconst 0, 1) := by decide +kernel
theorem dX2_findTokens_61 : decode cX2_findTokens 61 = .ok (.iastore, 1) := by decide +kernel
theorem dX2_findTokens_62 : decode cX2_findTokens 62 = .ok (.aload_n 0, 1) := by decide +kernel
theorem dX2_findTokens_63 : decode cX2_findTokens 63 = .ok (.getfield 23, 3) := by decide +kernel
theorem dX2_findTokens_66 : decode cX2_findTokens 66 = .ok (.iload_n 1, 1) := by decide +kernel
theorem dX2_findTokens_67 : decode cX2_findTokens 67 = .ok (.aload_n 0, 1) := by decide +kernel
theorem dX2_findTokens_68 : decode cX2_findTokens 68 = .ok (.getfield 15, 3) := by decide +kernel
theorem dX2_findTokens_71 : decode cX2_findTokens 71 = .ok (.iastore, 1) := by decide +kernel
theorem dX2_findTokens_72 : decode cX2_findTokens 72 = .ok (.return_, 1) := by decide +kernel
theorem dX2_takeToken_0 : decode cX2_takeToken 0 = .ok (.aload_n 0, 1) := by decide +kernel
theorem dX2_takeToken_1 : decode cX2_takeToken 1 = .ok (.getfield 9, 3) := by decide +kernel
theorem dX2_takeToken_4 : decode cX2_takeToken 4 = .ok (.iload_n 2, 1) := by decide +kernel
theorem dX2_takeToken_5 : decode cX2_takeToken 5 = .ok (.caload, 1) := by decide +kernel
theorem dX2_takeToken_6 : decode cX2_takeToken 6 = .ok (.invokestatic 73, 3) := by decide +kernel
theorem dX2_takeToken_9 : decode cX2_takeToken 9 = .ok (.ifCond .eq 10, 3) := by decide +kernel
theorem dX2_takeToken_12 : decode cX2_takeToken 12 = .ok (.aload_n 0, 1) := by decide +kernel
theorem dX2_takeToken_13 : decode cX2_takeToken 13 = .ok (.iload_n 1, 1) := by decide +kernel
theorem dX2_takeToken_14 : decode cX2_takeToken 14 = .ok (.iload_n 2, 1) := by decide +kernel
theorem dX2_takeToken_15 : decode cX2_takeToken 15 = .ok (.invokevirtual 77, 3) := by decide +kernel
theorem dX2_takeToken_18 : decode cX2_takeToken 18 = .ok (.ireturn, 1) := by decide +kernel
theorem dX2_takeToken_19 : decode cX2_takeToken 19 = .ok (.aload_n 0, 1) := by decide +kernel
theorem dX2_takeToken_20 : decode cX2_takeToken 20 = .ok (.getfield 9, 3) := by decide +kernel
theorem dX2_takeToken_23 : decode cX2_takeToken 23 = .ok (.iload_n 2, 1) := by decide +kernel
theorem dX2_takeToken_24 : decode cX2_takeToken 24 = .ok (.caload, 1) := by decide +kernel
theorem dX2_takeToken_25 : decode cX2_takeToken 25 = .ok (.invokestatic 80, 3) := by decide +kernel
theorem dX2_takeToken_28 : decode cX2_takeToken 28 = .ok (.ifCond .eq 10, 3) := by decide +kernel
theorem dX2_takeToken_31 : decode cX2_takeToken 31 = .ok (.aload_n 0, 1) := by decide +kernel
theorem dX2_takeToken_32 : decode cX2_takeToken 32 = .ok (.iload_n 1, 1) := by decide +kernel
theorem dX2_takeToken_33 : decode cX2_takeToken 33 = .ok (.iload_n 2, 1) := by decide +kernel
theorem dX2_takeToken_34 : decode cX2_takeToken 34 = .ok (.invokevirtual 83, 3) := by decide +kernel
theorem dX2_takeToken_37 : decode cX2_takeToken 37 = .ok (.ireturn, 1) := by decide +kernel
theorem dX2_takeToken_38 : decode cX2_takeToken 38 = .ok (.aload_n 0, 1) := by decide +kernel
theorem dX2_takeToken_39 : decode cX2_takeToken 39 = .ok (.getfield 19, 3) := by decide +kernel
theorem dX2_takeToken_42 : decode cX2_takeToken 42 = .ok (.iload_n 1, 1) := by decide +kernel
theorem dX2_takeToken_43 : decode cX2_takeToken 43 = .ok (.aload_n 0, 1) := by decide +kernel
theorem dX2_takeToken_44 : decode cX2_takeToken 44 = .ok (.getfield 9, 3) := by decide +kernel
theorem dX2_takeToken_47 : decode cX2_takeToken 47 = .ok (.iload_n 2, 1) := by decide +kernel
theorem dX2_takeToken_48 : decode cX2_takeToken 48 = .ok (.caload, 1) := by decide +kernel
theorem dX2_takeToken_49 : decode cX2_takeToken 49 = .ok (.bipush 59, 2) := by decide +kernel
theorem dX2_takeToken_51 : decode cX2_takeToken 51 = .ok (.if_icmp .ne 7, 3) := by decide +kernel
theorem dX2_takeToken_54 : decode cX2_takeToken 54 = .ok (.iconst 4, 1) := by decide +kernel
theorem dX2_takeToken_55 : decode cX2_takeToken 55 = .ok (.goto 4, 3) := by decide +kernel
theorem dX2_takeToken_58 : decode cX2_takeToken 58 = .ok (.iconst 5, 1) := by decide +kernel
theorem dX2_takeToken_59 : decode cX2_takeToken 59 = .ok (.iastore, 1) := by decide +kernel
theorem dX2_takeToken_60 : decode cX2_takeToken 60 = .ok (.iload_n 2, 1) := by decide +kernel
theorem dX2_takeToken_61 : decode cX2_takeToken 61 = .ok (.iconst 1, 1) := by decide +kernel
theorem dX2_takeToken_62 : decode cX2_takeToken 62 = .ok (.iadd, 1) := by decide +kernel
theorem dX2_takeToken_63 : decode cX2_takeToken 63 = .ok (.ireturn, 1) := by decide +kernel
theorem dX2_takeWord_0 : decode cX2_takeWord 0 = .ok (.iload_n 2, 1) := by decide +kernel
theorem dX2_takeWord_1 : decode cX2_takeWord 1 = .ok (.istore_n 3, 1) := by decide +kernel
theorem dX2_takeWord_2 : decode cX2_takeWord 2 = .ok (.iload_n 3, 1) := by decide +kernel
theorem dX2_takeWord_3 : decode cX2_takeWord 3 = .ok (.aload_n 0, 1) := by decide +kernel
theorem dX2_takeWord_4 : decode cX2_takeWord 4 = .ok (.getfield 15, 3) := by decide +kernel
theorem dX2_takeWord_7 : decode cX2_takeWord 7 = .ok (.if_icmp .ge 21, 3) := by decide +kernel
theorem dX2_takeWord_10 : decode cX2_takeWord 10 = .ok (.aload_n 0, 1) := by decide +kernel
theorem dX2_takeWord_11 : decode cX2_takeWord 11 = .ok (.getfield 9, 3) := by decide +kernel
theorem dX2_takeWord_14 : decode cX2_takeWord 14 = .ok (.iload_n 3, 1) := by decide +kernel
theorem dX2_takeWord_15 : decode cX2_takeWord 15 = .ok (.caload, 1) := by decide +kernel
theorem dX2_takeWord_16 : decode cX2_takeWord 16 = .ok (.invokestatic 73, 3) := by decide +kernel
theorem dX2_takeWord_19 : decode cX2_takeWord 19 = .ok (.ifCond .eq 9, 3) := by decide +kernel
theorem dX2_takeWord_22 : decode cX2_takeWord 22 = .ok (.iinc 3 1, 3) := by decide +kernel
theorem dX2_takeWord_25 : decode cX2_takeWord 25 = .ok (.goto (-23), 3) := by decide +kernel
theorem dX2_takeWord_28 : decode cX2_takeWord 28 = .ok (.aload_n 0, 1) := by decide +kernel
theorem dX2_takeWord_29 : decode cX2_takeWord 29 = .ok (.ldc 86, 2) := by decide +kernel
theorem dX2_takeWord_31 : decode cX2_takeWord 31 = .ok (.iload_n 2, 1) := by decide +kernel
theorem dX2_takeWord_32 : decode cX2_takeWord 32 = .ok (.iload_n 3, 1) := by decide +kernel
theorem dX2_takeWord_33 : decode cX2_takeWord 33 = .ok (.invokevirtual 87, 3) := by decide +kernel
theorem dX2_takeWord_36 : decode cX2_takeWord 36 = .ok (.ifCond .eq 13, 3) := by decide +kernel
theorem dX2_takeWord_39 : decode cX2_takeWord 39 = .ok (.aload_n 0, 1) := by decide +kernel
theorem dX2_takeWord_40 : decode cX2_takeWord 40 = .ok (.getfield 19, 3) := by decide +kernel
theorem dX2_takeWord_43 : decode cX2_takeWord 43 = .ok (.iload_n 1, 1) := by decide +kernel
theorem dX2_takeWord_44 : decode cX2_takeWord 44 = .ok (.iconst 1, 1) := by decide +kernel
theorem dX2_takeWord_45 : decode cX2_takeWord 45 = .ok (.iastore, 1) := by decide +kernel
theorem dX2_takeWord_46 : decode cX2_takeWord 46 = .ok (.goto 25, 3) := by decide +kernel
theorem dX2_takeWord_49 : decode cX2_takeWord 49 = .ok (.aload_n 0, 1) := by decide +kernel
theorem dX2_takeWord_50 : decode cX2_takeWord 50 = .ok (.getfield 19, 3) := by decide +kernel
theorem dX2_takeWord_53 : decode cX2_takeWord 53 = .ok (.iload_n 1, 1) := by decide +kernel
theorem dX2_takeWord_54 : decode cX2_takeWord 54 = .ok (.aload_n 0, 1) := by decide +kernel
theorem dX2_takeWord_55 : decode cX2_takeWord 55 = .ok (.ldc 91, 2) := by decide +kernel
theorem dX2_takeWord_57 : decode cX2_takeWord 57 = .ok (.iload_n 2, 1) := by decide +kernel
theorem dX2_takeWord_58 : decode cX2_takeWord 58 = .ok (.iload_n 3, 1) := by decide +kernel
theorem dX2_takeWord_59 : decode cX2_takeWord 59 = .ok (.invokevirtual 87, 3) := by decide +kernel
theorem dX2_takeWord_62 : decode cX2_takeWord 62 = .ok (.ifCond .eq 7, 3) := by decide +kernel
theorem dX2_takeWord_65 : decode cX2_takeWord 65 = .ok (.iconst 2, 1) := by decide +kernel
theorem dX2_takeWord_66 : decode cX2_takeWord 66 = .ok (.goto 4, 3) := by decide +kernel
theorem dX2_takeWord_69 : decode cX2_takeWord 69 = .ok (.iconst 5, 1) := by decide +kernel
theorem dX2_takeWord_70 : decode cX2_takeWord 70 = .ok (.iastore, 1) := by decide +kernel
theorem dX2_takeWord_71 : decode cX2_takeWord 71 = .ok (.iload_n 3, 1) := by decide +kernel
theorem dX2_takeWord_72 : decode cX2_takeWord 72 = .ok (.ireturn, 1) := by decide +kernel
theorem dX2_spells_0 : decode cX2_spells 0 = .ok (.aload_n 1, 1) := by decide +kernel
theorem dX2_spells_1 : decode cX2_spells 1 = .ok (.invokevirtual 93, 3) := by decide +kernel
theorem dX2_spells_4 : decode cX2_spells 4 = .ok (.iload_n 3, 1) := by decide +kernel
theorem dX2_spells_5 : decode cX2_spells 5 = .ok (.iload_n 2, 1) := by decide +kernel
theorem dX2_spells_6 : decode cX2_spells 6 = .ok (.isub, 1) := by decide +kernel
theorem dX2_spells_7 : decode cX2_spells 7 = .ok (.if_icmp .eq 5, 3) := by decide +kernel
theorem dX2_spells_10 : decode cX2_spells 10 = .ok (.iconst 0, 1) := by decide +kernel
theorem dX2_spells_11 : decode cX2_spells 11 = .ok (.ireturn, 1) := by decide +kernel
theorem dX2_spells_12 : decode cX2_spells 12 = .ok (.iconst 0, 1) := by decide +kernel
theorem dX2_spells_13 : decode cX2_spells 13 = .ok (.istore 4, 2) := by decide +kernel
theorem dX2_spells_15 : decode cX2_spells 15 = .ok (.iload 4, 2) := by decide +kernel
theorem dX2_spells_17 : decode cX2_spells 17 = .ok (.aload_n 1, 1) := by decide +kernel
theorem dX2_spells_18 : decode cX2_spells 18 = .ok (.invokevirtual 93, 3) := by decide +kernel
theorem dX2_spells_21 : decode cX2_spells 21 = .ok (.if_icmp .ge 29, 3) := by decide +kernel
theorem dX2_spells_24 : decode cX2_spells 24 = .ok (.aload_n 1, 1) := by decide +kernel
theorem dX2_spells_25 : decode cX2_spells 25 = .ok (.iload 4, 2) := by decide +kernel
theorem dX2_spells_27 : decode cX2_spells 27 = .ok (.invokevirtual 98, 3) := by decide +kernel
theorem dX2_spells_30 : decode cX2_spells 30 = .ok (.aload_n 0, 1) := by decide +kernel
theorem dX2_spells_31 : decode cX2_spells 31 = .ok (.getfield 9, 3) := by decide +kernel
theorem dX2_spells_34 : decode cX2_spells 34 = .ok (.iload_n 2, 1) := by decide +kernel
theorem dX2_spells_35 : decode cX2_spells 35 = .ok (.iload 4, 2) := by decide +kernel
theorem dX2_spells_37 : decode cX2_spells 37 = .ok (.iadd, 1) := by decide +kernel
theorem dX2_spells_38 : decode cX2_spells 38 = .ok (.caload, 1) := by decide +kernel
theorem dX2_spells_39 : decode cX2_spells 39 = .ok (.if_icmp .eq 5, 3) := by decide +kernel
theorem dX2_spells_42 : decode cX2_spells 42 = .ok (.iconst 0, 1) := by decide +kernel
theorem dX2_spells_43 : decode cX2_spells 43 = .ok (.ireturn, 1) := by decide +kernel
theorem dX2_spells_44 : decode cX2_spells 44 = .ok (.iinc 4 1, 3) := by decide +kernel
theorem dX2_spells_47 : decode cX2_spells 47 = .ok (.goto (-32), 3) := by decide +kernel
theorem dX2_spells_50 : decode cX2_spells 50 = .ok (.iconst 1, 1) := by decide +kernel
theorem dX2_spells_51 : decode cX2_spells 51 = .ok (.ireturn, 1) := by decide +kernel
theorem dX2_takeFigures_0 : decode cX2_takeFigures 0 = .ok (.iload_n 2, 1) := by decide +kernel
theorem dX2_takeFigures_1 : decode cX2_takeFigures 1 = .ok (.istore_n 3, 1) := by decide +kernel
theorem dX2_takeFigures_2 : decode cX2_takeFigures 2 = .ok (.iconst 0, 1) := by decide +kernel
theorem dX2_takeFigures_3 : decode cX2_takeFigures 3 = .ok (.istore 4, 2) := by decide +kernel
theorem dX2_takeFigures_5 : decode cX2_takeFigures 5 = .ok (.iload_n 3, 1) := by decide +kernel
theorem dX2_takeFigures_6 : decode cX2_takeFigures 6 = .ok (.aload_n 0, 1) := by decide +kernel
theorem dX2_takeFigures_7 : decode cX2_takeFigures 7 = .ok (.getfield 15, 3) := by decide +kernel
theorem dX2_takeFigures_10 : decode cX2_takeFigures 10 = .ok (.if_icmp .ge 38, 3) := by decide +kernel
theorem dX2_takeFigures_13 : decode cX2_takeFigures 13 = .ok (.aload_n 0, 1) := by decide +kernel
theorem dX2_takeFigures_14 : decode cX2_takeFigures 14 = .ok (.getfield 9, 3) := by decide +kernel
theorem dX2_takeFigures_17 : decode cX2_takeFigures 17 = .ok (.iload_n 3, 1) := by decide +kernel
theorem dX2_takeFigures_18 : decode cX2_takeFigures 18 = .ok (.caload, 1) := by decide +kernel
theorem dX2_takeFigures_19 : decode cX2_takeFigures 19 = .ok (.invokestatic 80, 3) := by decide +kernel
theorem dX2_takeFigures_22 : decode cX2_takeFigures 22 = .ok (.ifCond .eq 26, 3) := by decide +kernel
theorem dX2_takeFigures_25 : decode cX2_takeFigures 25 = .ok (.iload 4, 2) := by decide +kernel
theorem dX2_takeFigures_27 : decode cX2_takeFigures 27 = .ok (.bipush 10, 2) := by decide +kernel
theorem dX2_takeFigures_29 : decode cX2_takeFigures 29 = .ok (.imul, 1) := by decide +kernel
theorem dX2_takeFigures_30 : decode cX2_takeFigures 30 = .ok (.aload_n 0, 1) := by decide +kernel
theorem dX2_takeFigures_31 : decode cX2_takeFigures 31 = .ok (.getfield 9, 3) := by decide +kernel
theorem dX2_takeFigures_34 : decode cX2_takeFigures 34 = .ok (.iload_n 3, 1) := by decide +kernel
theorem dX2_takeFigures_35 : decode cX2_takeFigures 35 = .ok (.caload, 1) := by decide +kernel
theorem dX2_takeFigures_36 : decode cX2_takeFigures 36 = .ok (.bipush 48, 2) := by decide +kernel
theorem dX2_takeFigures_38 : decode cX2_takeFigures 38 = .ok (.isub, 1) := by decide +kernel
theorem dX2_takeFigures_39 : decode cX2_takeFigures 39 = .ok (.iadd, 1) := by decide +kernel
theorem dX2_takeFigures_40 : decode cX2_takeFigures 40 = .ok (.istore 4, 2) := by decide +kernel
theorem dX2_takeFigures_42 : decode cX2_takeFigures 42 = .ok (.iinc 3 1, 3) := by decide +kernel
theorem dX2_takeFigures_45 : decode cX2_takeFigures 45 = .ok (.goto (-40), 3) := by decide +kernel
theorem dX2_takeFigures_48 : decode cX2_takeFigures 48 = .ok (.iload_n 3, 1) := by decide +kernel
theorem dX2_takeFigures_49 : decode cX2_takeFigures 49 = .ok (.iload_n 2, 1) := by decide +kernel
theorem dX2_takeFigures_50 : decode cX2_takeFigures 50 = .ok (.isub, 1) := by decide +kernel
theorem dX2_takeFigures_51 : decode cX2_takeFigures 51 = .ok (.istore 5, 2) := by decide +kernel
theorem dX2_takeFigures_53 : decode cX2_takeFigures 53 = .ok (.iload 5, 2) := by decide +kernel
theorem dX2_takeFigures_55 : decode cX2_takeFigures 55 = .ok (.iconst 1, 1) := by decide +kernel
theorem dX2_takeFigures_56 : decode cX2_takeFigures 56 = .ok (.if_icmp .le 18, 3) := by decide +kernel
theorem dX2_takeFigures_59 : decode cX2_takeFigures 59 = .ok (.aload_n 0, 1) := by decide +kernel
theorem dX2_takeFigures_60 : decode cX2_takeFigures 60 = .ok (.getfield 9, 3) := by decide +kernel
theorem dX2_takeFigures_63 : decode cX2_takeFigures 63 = .ok (.iload_n 2, 1) := by decide +kernel
theorem dX2_takeFigures_64 : decode cX2_takeFigures 64 = .ok (.caload, 1) := by decide +kernel
theorem dX2_takeFigures_65 : decode cX2_takeFigures 65 = .ok (.bipush 48, 2) := by decide +kernel
theorem dX2_takeFigures_67 : decode cX2_takeFigures 67 = .ok (.if_icmp .ne 7, 3) := by decide +kernel
theorem dX2_takeFigures_70 : decode cX2_takeFigures 70 = .ok (.iconst 1, 1) := by decide +kernel
theorem dX2_takeFigures_71 : decode cX2_takeFigures 71 = .ok (.goto 4, 3) := by decide +kernel
theorem dX2_takeFigures_74 : decode cX2_takeFigures 74 = .ok (.iconst 0, 1) := by decide +kernel
theorem dX2_takeFigures_75 : decode cX2_takeFigures 75 = .ok (.istore 6, 2) := by decide +kernel
theorem dX2_takeFigures_77 : decode cX2_takeFigures 77 = .ok (.aload_n 0, 1) := by decide +kernel
theorem dX2_takeFigures_78 : decode cX2_takeFigures 78 = .ok (.getfield 19, 3) := by decide +kernel
theorem dX2_takeFigures_81 : decode cX2_takeFigures 81 = .ok (.iload_n 1, 1) := by decide +kernel
theorem dX2_takeFigures_82 : decode cX2_takeFigures 82 = .ok (.iload 5, 2) := by decide +kernel
theorem dX2_takeFigures_84 : decode cX2_takeFigures 84 = .ok (.iconst 2, 1) := by decide +kernel
theorem dX2_takeFigures_85 : decode cX2_takeFigures 85 = .ok (.if_icmp .gt 8, 3) := by decide +kernel
theorem dX2_takeFigures_88 : decode cX2_takeFigures 88 = .ok (.iload 6, 2) := by decide +kernel
theorem dX2_takeFigures_90 : decode cX2_takeFigures 90 = .ok (.ifCond .eq 7, 3) := by decide +kernel
theorem dX2_takeFigures_93 : decode cX2_takeFigures 93 = .ok (.iconst 5, 1) := by decide +kernel
theorem dX2_takeFigures_94 : decode cX2_takeFigures 94 = .ok (.goto 4, 3) := by decide +kernel
theorem dX2_takeFigures_97 : decode cX2_takeFigures 97 = .ok (.iconst 3, 1) := by decide +kernel
theorem dX2_takeFigures_98 : decode cX2_takeFigures 98 = .ok (.iastore, 1) := by decide +kernel
theorem dX2_takeFigures_99 : decode cX2_takeFigures 99 = .ok (.aload_n 0, 1) := by decide +kernel
theorem dX2_takeFigures_100 : decode cX2_takeFigures 100 = .ok (.getfield 26, 3) := by decide +kernel
theorem dX2_takeFigures_103 : decode cX2_takeFigures 103 = .ok (.iload_n 1, 1) := by decide +kernel
theorem dX2_takeFigures_104 : decode cX2_takeFigures 104 = .ok (.iload 4, 2) := by decide +kernel
theorem dX2_takeFigures_106 : decode cX2_takeFigures 106 = .ok (.iastore, 1) := by decide +kernel
theorem dX2_takeFigures_107 : decode cX2_takeFigures 107 = .ok (.iload_n 3, 1) := by decide +kernel
theorem dX2_takeFigures_108 : decode cX2_takeFigures 108 = .ok (.ireturn, 1) := by decide +kernel
theorem dX2_isSmallLetter_0 : decode cX2_isSmallLetter 0 = .ok (.iload_n 0, 1) := by decide +kernel
theorem dX2_isSmallLetter_1 : decode cX2_isSmallLetter 1 = .ok (.bipush 97, 2) := by decide +kernel
theorem dX2_isSmallLetter_3 : decode cX2_isSmallLetter 3 = .ok (.if_icmp .lt 13, 3) := by decide +kernel
theorem dX2_isSmallLetter_6 : decode cX2_isSmallLetter 6 = .ok (.iload_n 0, 1) := by decide +kernel
theorem dX2_isSmallLetter_7 : decode cX2_isSmallLetter 7 = .ok (.bipush 122, 2) := by decide +kernel
theorem dX2_isSmallLetter_9 : decode cX2_isSmallLetter 9 = .ok (.if_icmp .gt 7, 3) := by decide +kernel
theorem dX2_isSmallLetter_12 : decode cX2_isSmallLetter 12 = .ok (.iconst 1, 1) := by decide +kernel
theorem dX2_isSmallLetter_13 : decode cX2_isSmallLetter 13 = .ok (.goto 4, 3) := by decide +kernel
theorem dX2_isSmallLetter_16 : decode cX2_isSmallLetter 16 = .ok (.iconst 0, 1) := by decide +kernel
theorem dX2_isSmallLetter_17 : decode cX2_isSmallLetter 17 = .ok (.ireturn, 1) := by decide +kernel
theorem dX2_isFigure_0 : decode cX2_isFigure 0 = .ok (.iload_n 0, 1) := by decide +kernel
theorem dX2_isFigure_1 : decode cX2_isFigure 1 = .ok (.bipush 48, 2) := by decide +kernel
theorem dX2_isFigure_3 : decode cX2_isFigure 3 = .ok (.if_icmp .lt 13, 3) := by decide +kernel
theorem dX2_isFigure_6 : decode cX2_isFigure 6 = .ok (.iload_n 0, 1) := by decide +kernel
theorem dX2_isFigure_7 : decode cX2_isFigure 7 = .ok (.bipush 57, 2) := by decide +kernel
theorem dX2_isFigure_9 : decode cX2_isFigure 9 = .ok (.if_icmp .gt 7, 3) := by decide +kernel
theorem dX2_isFigure_12 : decode cX2_isFigure 12 = .ok (.iconst 1, 1) := by decide +kernel
theorem dX2_isFigure_13 : decode cX2_isFigure 13 = .ok (.goto 4, 3) := by decide +kernel
theorem dX2_isFigure_16 : decode cX2_isFigure 16 = .ok (.iconst 0, 1) := by decide +kernel
theorem dX2_isFigure_17 : decode cX2_isFigure 17 = .ok (.ireturn, 1) := by decide +kernel
end
section
theorem dX3_init_0 : decode cX3_init 0 = .ok (.aload_n 0, 1) := by decide +kernel
theorem dX3_init_1 : decode cX3_init 1 = .ok (.invokespecial 1, 3) := by decide +kernel
theorem dX3_init_4 : decode cX3_init 4 = .ok (.aload_n 0, 1) := by decide +kernel
theorem dX3_init_5 : decode cX3_init 5 = .ok (.new 7, 3) := by decide +kernel
theorem dX3_init_8 : decode cX3_init 8 = .ok (.dup, 1) := by decide +kernel
theorem dX3_init_9 : decode cX3_init 9 = .ok (.invokespecial 9, 3) := by decide +kernel
theorem dX3_init_12 : decode cX3_init 12 = .ok (.putfield 10, 3) := by decide +kernel
theorem dX3_init_15 : decode cX3_init 15 = .ok (.aload_n 0, 1) := by decide +kernel
theorem dX3_init_16 : decode cX3_init 16 = .ok (.new 7, 3) := by decide +kernel
theorem dX3_init_19 : decode cX3_init 19 = .ok (.dup, 1) := by decide +kernel
theorem dX3_init_20 : decode cX3_init 20 = .ok (.invokespecial 9, 3) := by decide +kernel
theorem dX3_init_23 : decode cX3_init 23 = .ok (.putfield 16, 3) := by decide +kernel
theorem dX3_init_26 : decode cX3_init 26 = .ok (.aload_n 0, 1) := by decide +kernel
theorem dX3_init_27 : decode cX3_init 27 = .ok (.new 19, 3) := by decide +kernel
theorem dX3_init_30 : decode cX3_init 30 = .ok (.dup, 1) := by decide +kernel
theorem dX3_init_31 : decode cX3_init 31 = .ok (.invokespecial 21, 3) := by decide +kernel
theorem dX3_init_34 : decode cX3_init 34 = .ok (.putfield 22, 3) := by decide +kernel
theorem dX3_init_37 : decode cX3_init 37 = .ok (.aload_n 0, 1) := by decide +kernel
theorem dX3_init_38 : decode cX3_init 38 = .ok (.new 26, 3) := by decide +kernel
theorem dX3_init_41 : decode cX3_init 41 = .ok (.dup, 1) := by decide +kernel
theorem dX3_init_42 : decode cX3_init 42 = .ok (.invokespecial 28, 3) := by decide +kernel
theorem dX3_init_45 : decode cX3_init 45 = .ok (.putfield 29, 3) := by decide +kernel
theorem dX3_init_48 : decode cX3_init 48 = .ok (.aload_n 0, 1) := by decide +kernel
theorem dX3_init_49 : decode cX3_init 49 = .ok (.iconst 2, 1) := by decide +kernel
theorem dX3_init_50 : decode cX3_init 50 = .ok (.anewarray 7, 3) := by decide +kernel
theorem dX3_init_53 : decode cX3_init 53 = .ok (.putfield 33, 3) := by decide +kernel
theorem dX3_init_56 : decode cX3_init 56 = .ok (.aload_n 0, 1) := by decide +kernel
theorem dX3_init_57 : decode cX3_init 57 = .ok (.iconst 2, 1) := by decide +kernel
theorem dX3_init_58 : decode cX3_init 58 = .ok (.newarray .boolean, 2) := by decide +kernel
theorem dX3_init_60 : decode cX3_init 60 = .ok (.putfield 37, 3) := by decide +kernel
theorem dX3_init_63 : decode cX3_init 63 = .ok (.aload_n 0, 1) := by decide +kernel
theorem dX3_init_64 : decode cX3_init 64 = .ok (.bipush 6, 2) := by decide +kernel
theorem dX3_init_66 : decode cX3_init 66 = .ok (.newarray .int, 2) := by decide +kernel
theorem dX3_init_68 : decode cX3_init 68 = .ok (.putfield 41, 3) := by decide +kernel
theorem dX3_init_71 : decode cX3_init 71 = .ok (.aload_n 0, 1) := by decide +kernel
theorem dX3_init_72 : decode cX3_init 72 = .ok (.bipush 6, 2) := by decide +kernel
theorem dX3_init_74 : decode cX3_init 74 = .ok (.newarray .int, 2) := by decide +kernel
theorem dX3_init_76 : decode cX3_init 76 = .ok (.putfield 45, 3) := by decide +kernel
theorem dX3_init_79 : decode cX3_init 79 = .ok (.aload_n 0, 1) := by decide +kernel
theorem dX3_init_80 : decode cX3_init 80 = .ok (.iconst 0, 1) := by decide +kernel
theorem dX3_init_81 : decode cX3_init 81 = .ok (.putfield 48, 3) := by decide +kernel
theorem dX3_init_84 : decode cX3_init 84 = .ok (.aload_n 0, 1) := by decide +kernel
theorem dX3_init_85 : decode cX3_init 85 = .ok (.iconst 4, 1) := by decide +kernel
theorem dX3_init_86 : decode cX3_init 86 = .ok (.newarray .int, 2) := by decide +kernel
theorem dX3_init_88 : decode cX3_init 88 = .ok (.putfield 52, 3) := by decide +kernel
theorem dX3_init_91 : decode cX3_init 91 = .ok (.iconst 0, 1) := by decide +kernel
theorem dX3_init_92 : decode cX3_init 92 = .ok (.istore_n 1, 1) := by decide +kernel
theorem dX3_init_93 : decode cX3_init 93 = .ok (.iload_n 1, 1) := by decide +kernel
theorem dX3_init_94 : decode cX3_init 94 = .ok (.iconst 2, 1) := by decide +kernel
theorem dX3_init_95 : decode cX3_init 95 = .ok (.if_icmp .ge 22, 3) := by decide +kernel
theorem dX3_init_98 : decode cX3_init 98 = .ok (.aload_n 0, 1) := by decide +kernel
theorem dX3_init_99 : decode cX3_init 99 = .ok (.getfield 33, 3) := by decide +kernel
theorem dX3_init_102 : decode cX3_init 102 = .ok (.iload_n 1, 1) := by decide +kernel
theorem dX3_init_103 : decode cX3_init 103 = .ok (.new 7, 3) := by decide +kernel
theorem dX3_init_106 : decode cX3_init 106 = .ok (.dup, 1) := by decide +kernel
theorem dX3_init_107 : decode cX3_init 107 = .ok (.invokespecial 9, 3) := by decide +kernel
theorem dX3_init_110 : decode cX3_init 110 = .ok (.aastore, 1) := by decide +kernel
theorem dX3_init_111 : decode cX3_init 111 = .ok (.iinc 1 1, 3) := by decide +kernel
theorem dX3_init_114 : decode cX3_init 114 = .ok (.goto (-21), 3) := by decide +kernel
theorem dX3_init_117 : decode cX3_init 117 = .ok (.return_, 1) := by decide +kernel
theorem dX3_type_0 : decode cX3_type 0 = .ok (.iload_n 1, 1) := by decide +kernel
theorem dX3_type_1 : decode cX3_type 1 = .ok (.ifCond .lt 10, 3) := by decide +kernel
theorem dX3_type_4 : decode cX3_type 4 = .ok (.iload_n 1, 1) := by decide +kernel
theorem dX3_type_5 : decode cX3_type 5 = .ok (.sipush 255, 3) := by decide +kernel
theorem dX3_type_8 : decode cX3_type 8 = .ok (.if_icmp .le 5, 3) := by decide +kernel
theorem dX3_type_11 : decode cX3_type 11 = .ok (.iconst (-1), 1) := by decide +kernel
theorem dX3_type_12 : decode cX3_type 12 = .ok (.ireturn, 1) := by decide +kernel
theorem dX3_type_13 : decode cX3_type 13 = .ok (.aload_n 0, 1) := by decide +kernel
theorem dX3_type_14 : decode cX3_type 14 = .ok (.getfield 29, 3) := by decide +kernel
theorem dX3_type_17 : decode cX3_type 17 = .ok (.getfield 55, 3) := by decide +kernel
theorem dX3_type_20 : decode cX3_type 20 = .ok (.bipush 80, 2) := by decide +kernel
theorem dX3_type_22 : decode cX3_type 22 = .ok (.if_icmp .lt 6, 3) := by decide +kernel
theorem dX3_type_25 : decode cX3_type 25 = .ok (.bipush (-3), 2) := by decide +kernel
theorem dX3_type_27 : decode cX3_type 27 = .ok (.ireturn, 1) := by decide +kernel
theorem dX3_type_28 : decode cX3_type 28 = .ok (.aload_n 0, 1) := by decide +kernel
theorem dX3_type_29 : decode cX3_type 29 = .ok (.getfield 29, 3) := by decide +kernel
theorem dX3_type_32 : decode cX3_type 32 = .ok (.iload_n 1, 1) := by decide +kernel
theorem dX3_type_33 : decode cX3_type 33 = .ok (.i2c, 1) := by decide +kernel
theorem dX3_type_34 : decode cX3_type 34 = .ok (.invokevirtual 58, 3) := by decide +kernel
theorem dX3_type_37 : decode cX3_type 37 = .ok (.aload_n 0, 1) := by decide +kernel
theorem dX3_type_38 : decode cX3_type 38 = .ok (.getfield 29, 3) := by decide +kernel
theorem dX3_type_41 : decode cX3_type 41 = .ok (.getfield 55, 3) := by decide +kernel
theorem dX3_type_44 : decode cX3_type 44 = .ok (.ireturn, 1) := by decide +kernel
theorem dX3_clear_0 : decode cX3_clear 0 = .ok (.aload_n 0, 1) := by decide +kernel
theorem dX3_clear_1 : decode cX3_clear 1 = .ok (.getfield 29, 3) := by decide +kernel
theorem dX3_clear_4 : decode cX3_clear 4 = .ok (.invokevirtual 62, 3) := by decide +kernel
theorem dX3_clear_7 : decode cX3_clear 7 = .ok (.ireturn, 1) := by decide +kernel
theorem dX3_tells_0 : decode cX3_tells 0 = .ok (.aload_n 0, 1) := by decide +kernel
theorem dX3_tells_1 : decode cX3_tells 1 = .ok (.getfield 29, 3) := by decide +kernel
theorem dX3_tells_4 : decode cX3_tells 4 = .ok (.aload_n 0, 1) := by decide +kernel
theorem dX3_tells_5 : decode cX3_tells 5 = .ok (.getfield 16, 3) := by decide +kernel
theorem dX3_tells_8 : decode cX3_tells 8 = .ok (.invokevirtual 66, 3) := by decide +kernel
theorem dX3_tells_11 : decode cX3_tells 11 = .ok (.istore_n 1, 1) := by decide +kernel
theorem dX3_tells_12 : decode cX3_tells 12 = .ok (.iload_n 1, 1) := by decide +kernel
theorem dX3_tells_13 : decode cX3_tells 13 = .ok (.ifCond .ge 5, 3) := by decide +kernel
theorem dX3_tells_16 : decode cX3_tells 16 = .ok (.iload_n 1, 1) := by decide +kernel
theorem dX3_tells_17 : decode cX3_tells 17 = .ok (.ireturn, 1) := by decide +kernel
theorem dX3_tells_18 : decode cX3_tells 18 = .ok (.aload_n 0, 1) := by decide +kernel
theorem dX3_tells_19 : decode cX3_tells 19 = .ok (.getfield 22, 3) := by decide +kernel
theorem dX3_tells_22 : decode cX3_tells 22 = .ok (.aload_n 0, 1) := by decide +kernel
theorem dX3_tells_23 : decode cX3_tells 23 = .ok (.getfield 10, 3) := by decide +kernel
theorem dX3_tells_26 : decode cX3_tells 26 = .ok (.invokevirtual 70, 3) := by decide +kernel
theorem dX3_tells_29 : decode cX3_tells 29 = .ok (.aload_n 0, 1) := by decide +kernel
theorem dX3_tells_30 : decode cX3_tells 30 = .ok (.getfield 10, 3) := by decide +kernel
theorem dX3_tells_33 : decode cX3_tells 33 = .ok (.aload_n 0, 1) := by decide +kernel
theorem dX3_tells_34 : decode cX3_tells 34 = .ok (.getfield 16, 3) := by decide +kernel
theorem dX3_tells_37 : decode cX3_tells 37 = .ok (.invokevirtual 74, 3) := by decide +kernel
theorem dX3_tells_40 : decode cX3_tells 40 = .ok (.aload_n 0, 1) := by decide +kernel
theorem dX3_tells_41 : decode cX3_tells 41 = .ok (.getfield 29, 3) := by decide +kernel
theorem dX3_tells_44 : decode cX3_tells 44 = .ok (.invokevirtual 62, 3) := by decide +kernel
theorem dX3_tells_47 : decode cX3_tells 47 = .ok (.pop, 1) := by decide +kernel
theorem dX3_tells_48 : decode cX3_tells 48 = .ok (.iload_n 1, 1) := by decide +kernel
theorem dX3_tells_49 : decode cX3_tells 49 = .ok (.ireturn, 1) := by decide +kernel
theorem dX3_accepts_0 : decode cX3_accepts 0 = .ok (.aload_n 0, 1) := by decide +kernel
theorem dX3_accepts_1 : decode cX3_accepts 1 = .ok (.iload_n 1, 1) := by decide +kernel
theorem dX3_accepts_2 : decode cX3_accepts 2 = .ok (.invokevirtual 77, 3) := by decide +kernel
theorem dX3_accepts_5 : decode cX3_accepts 5 = .ok (.ifCond .eq 14, 3) := by decide +kernel
theorem dX3_accepts_8 : decode cX3_accepts 8 = .ok (.iload_n 2, 1) := by decide +kernel
theorem dX3_accepts_9 : decode cX3_accepts 9 = .ok (.iconst 1, 1) := by decide +kernel
theorem dX3_accepts_10 : decode cX3_accepts 10 = .ok (.if_icmp .lt 9, 3) := by decide +kernel
theorem dX3_accepts_13 : decode cX3_accepts 13 = .ok (.iload_n 2, 1) := by decide +kernel
theorem dX3_accepts_14 : decode cX3_accepts 14 = .ok (.bipush 9, 2) := by decide +kernel
theorem dX3_accepts_16 : decode cX3_accepts 16 = .ok (.if_icmp .le 5, 3) := by decide +kernel
theorem dX3_accepts_19 : decode cX3_accepts 19 = .ok (.iconst (-1), 1) := by decide +kernel
theorem dX3_accepts_20 : decode cX3_accepts 20 = .ok (.ireturn, 1) := by decide +kernel
theorem dX3_accepts_21 : decode cX3_accepts 21 = .ok (.aload_n 0, 1) := by decide +kernel
theorem dX3_accepts_22 : decode cX3_accepts 22 = .ok (.getfield 10, 3) := by decide +kernel
theorem dX3_accepts_25 : decode cX3_accepts 25 = .ok (.getfield 81, 3) := by decide +kernel
theorem dX3_accepts_28 : decode cX3_accepts 28 = .ok (.bipush 24, 2) := by decide +kernel
theorem dX3_accepts_30 : decode cX3_accepts 30 = .ok (.if_icmp .lt 6, 3) := by decide +kernel
theorem dX3_accepts_33 : decode cX3_accepts 33 = .ok (.bipush (-3), 2) := by decide +kernel
theorem dX3_accepts_35 : decode cX3_accepts 35 = .ok (.ireturn, 1) := by decide +kernel
theorem dX3_accepts_36 : decode cX3_accepts 36 = .ok (.aload_n 0, 1) := by decide +kernel
theorem dX3_accepts_37 : decode cX3_accepts 37 = .ok (.getfield 22, 3) := by decide +kernel
theorem dX3_accepts_40 : decode cX3_accepts 40 = .ok (.aload_n 0, 1) := by decide +kernel
theorem dX3_accepts_41 : decode cX3_accepts 41 = .ok (.getfield 10, 3) := by decide +kernel
theorem dX3_accepts_44 : decode cX3_accepts 44 = .ok (.invokevirtual 70, 3) := by decide +kernel
theorem dX3_accepts_47 : decode cX3_accepts 47 = .ok (.aload_n 0, 1) := by decide +kernel
theorem dX3_accepts_48 : decode cX3_accepts 48 = .ok (.getfield 10, 3) := by decide +kernel
theorem dX3_accepts_51 : decode cX3_accepts 51 = .ok (.iload_n 1, 1) := by decide +kernel
theorem dX3_accepts_52 : decode cX3_accepts 52 = .ok (.iload_n 2, 1) := by decide +kernel
theorem dX3_accepts_53 : decode cX3_accepts 53 = .ok (.invokevirtual 84, 3) := by decide +kernel
theorem dX3_accepts_56 : decode cX3_accepts 56 = .ok (.ireturn, 1) := by decide +kernel
theorem dX3_passes_0 : decode cX3_passes 0 = .ok (.iload_n 1, 1) := by decide +kernel
theorem dX3_passes_1 : decode cX3_passes 1 = .ok (.iconst 1, 1) := by decide +kernel
theorem dX3_passes_2 : decode cX3_passes 2 = .ok (.if_icmp .lt 9, 3) := by decide +kernel
theorem dX3_passes_5 : decode cX3_passes 5 = .ok (.iload_n 1, 1) := by decide +kernel
theorem dX3_passes_6 : decode cX3_passes 6 = .ok (.bipush 99, 2) := by decide +kernel
theorem dX3_passes_8 : decode cX3_passes 8 = .ok (.if_icmp .le 5, 3) := by decide +kernel
theorem dX3_passes_11 : decode cX3_passes 11 = .ok (.iconst (-1), 1) := by decide +kernel
theorem dX3_passes_12 : decode cX3_passes 12 = .ok (.ireturn, 1) := by decide +kernel
theorem dX3_passes_13 : decode cX3_passes 13 = .ok (.aload_n 0, 1) := by decide +kernel
theorem dX3_passes_14 : decode cX3_passes 14 = .ok (.getfield 10, 3) := by decide +kernel
theorem dX3_passes_17 : decode cX3_passes 17 = .ok (.getfield 88, 3) := by decide +kernel
theorem dX3_passes_20 : decode cX3_passes 20 = .ok (.iload_n 1, 1) := by decide +kernel
theorem dX3_passes_21 : decode cX3_passes 21 = .ok (.iadd, 1) := by decide +kernel
theorem dX3_passes_22 : decode cX3_passes 22 = .ok (.sipush 999, 3) := by decide +kernel
theorem dX3_passes_25 : decode cX3_passes 25 = .ok (.if_icmp .le 6, 3) := by decide +kernel
theorem dX3_passes_28 : decode cX3_passes 28 = .ok (.bipush (-2), 2) := by decide +kernel
theorem dX3_passes_30 : decode cX3_passes 30 = .ok (.ireturn, 1) := by decide +kernel
theorem dX3_passes_31 : decode cX3_passes 31 = .ok (.aload_n 0, 1) := by decide +kernel
theorem dX3_passes_32 : decode cX3_passes 32 = .ok (.getfield 22, 3) := by decide +kernel
theorem dX3_passes_35 : decode cX3_passes 35 = .ok (.aload_n 0, 1) := by decide +kernel
theorem dX3_passes_36 : decode cX3_passes 36 = .ok (.getfield 10, 3) := by decide +kernel
theorem dX3_passes_39 : decode cX3_passes 39 = .ok (.invokevirtual 70, 3) := by decide +kernel
theorem dX3_passes_42 : decode cX3_passes 42 = .ok (.aload_n 0, 1) := by decide +kernel
theorem dX3_passes_43 : decode cX3_passes 43 = .ok (.getfield 10, 3) := by decide +kernel
theorem dX3_passes_46 : decode cX3_passes 46 = .ok (.dup, 1) := by decide +kernel
theorem dX3_passes_47 : decode cX3_passes 47 = .ok (.getfield 88, 3) := by decide +kernel
theorem dX3_passes_50 : decode cX3_passes 50 = .ok (.iload_n 1, 1) := by decide +kernel
theorem dX3_passes_51 : decode cX3_passes 51 = .ok (.iadd, 1) := by decide +kernel
theorem dX3_passes_52 : decode cX3_passes 52 = .ok (.putfield 88, 3) := by decide +kernel
theorem dX3_passes_55 : decode cX3_passes 55 = .ok (.aload_n 0, 1) := by decide +kernel
theorem dX3_passes_56 : decode cX3_passes 56 = .ok (.getfield 10, 3) := by decide +kernel
theorem dX3_passes_59 : decode cX3_passes 59 = .ok (.getfield 88, 3) := by decide +kernel
theorem dX3_passes_62 : decode cX3_passes 62 = .ok (.ireturn, 1) := by decide +kernel
theorem dX3_pulls_0 : decode cX3_pulls 0 = .ok (.aload_n 0, 1) := by decide +kernel
theorem dX3_pulls_1 : decode cX3_pulls 1 = .ok (.iload_n 1, 1) := by decide +kernel
theorem dX3_pulls_2 : decode cX3_pulls 2 = .ok (.iload_n 2, 1) := by decide +kernel
theorem dX3_pulls_3 : decode cX3_pulls 3 = .ok (.invokevirtual 91, 3) := by decide +kernel
theorem dX3_pulls_6 : decode cX3_pulls 6 = .ok (.ifCond .ne 5, 3) := by decide +kernel
theorem dX3_pulls_9 : decode cX3_pulls 9 = .ok (.iconst (-1), 1) := by decide +kernel
theorem dX3_pulls_10 : decode cX3_pulls 10 = .ok (.ireturn, 1) := by decide +kernel
theorem dX3_pulls_11 : decode cX3_pulls 11 = .ok (.aload_n 0, 1) := by decide +kernel
theorem dX3_pulls_12 : decode cX3_pulls 12 = .ok (.getfield 22, 3) := by decide +kernel
theorem dX3_pulls_15 : decode cX3_pulls 15 = .ok (.aload_n 0, 1) := by decide +kernel
theorem dX3_pulls_16 : decode cX3_pulls 16 = .ok (.getfield 10, 3) := by decide +kernel
theorem dX3_pulls_19 : decode cX3_pulls 19 = .ok (.invokevirtual 70, 3) := by decide +kernel
theorem dX3_pulls_22 : decode cX3_pulls 22 = .ok (.aload_n 0, 1) := by decide +kernel
theorem dX3_pulls_23 : decode cX3_pulls 23 = .ok (.getfield 10, 3) := by decide +kernel
theorem dX3_pulls_26 : decode cX3_pulls 26 = .ok (.getfield 95, 3) := by decide +kernel
theorem dX3_pulls_29 : decode cX3_pulls 29 = .ok (.iload_n 1, 1) := by decide +kernel
theorem dX3_pulls_30 : decode cX3_pulls 30 = .ok (.iaload, 1) := by decide +kernel
theorem dX3_pulls_31 : decode cX3_pulls 31 = .ok (.invokestatic 98, 3) := by decide +kernel
theorem dX3_pulls_34 : decode cX3_pulls 34 = .ok (.istore_n 3, 1) := by decide +kernel
theorem dX3_pulls_35 : decode cX3_pulls 35 = .ok (.aload_n 0, 1) := by decide +kernel
theorem dX3_pulls_36 : decode cX3_pulls 36 = .ok (.getfield 10, 3) := by decide +kernel
theorem dX3_pulls_39 : decode cX3_pulls 39 = .ok (.iload_n 1, 1) := by decide +kernel
theorem dX3_pulls_40 : decode cX3_pulls 40 = .ok (.iload_n 2, 1) := by decide +kernel
theorem dX3_pulls_41 : decode cX3_pulls 41 = .ok (.invokevirtual 104, 3) := by decide +kernel
theorem dX3_pulls_44 : decode cX3_pulls 44 = .ok (.aload_n 0, 1) := by decide +kernel
theorem dX3_pulls_45 : decode cX3_pulls 45 = .ok (.getfield 10, 3) := by decide +kernel
theorem dX3_pulls_48 : decode cX3_pulls 48 = .ok (.getfield 95, 3) := by decide +kernel
theorem dX3_pulls_51 : decode cX3_pulls 51 = .ok (.iload_n 1, 1) := by decide +kernel
theorem dX3_pulls_52 : decode cX3_pulls 52 = .ok (.iaload, 1) := by decide +kernel
theorem dX3_pulls_53 : decode cX3_pulls 53 = .ok (.invokestatic 98, 3) := by decide +kernel
theorem dX3_pulls_56 : decode cX3_pulls 56 = .ok (.iload_n 3, 1) := by decide +kernel
theorem dX3_pulls_57 : decode cX3_pulls 57 = .ok (.isub, 1) := by decide +kernel
theorem dX3_pulls_58 : decode cX3_pulls 58 = .ok (.ireturn, 1) := by decide +kernel
theorem dX3_reads_0 : decode cX3_reads 0 = .ok (.aload_n 0, 1) := by decide +kernel
theorem dX3_reads_1 : decode cX3_reads 1 = .ok (.iload_n 1, 1) := by decide +kernel
theorem dX3_reads_2 : decode cX3_reads 2 = .ok (.invokevirtual 77, 3) := by decide +kernel
theorem dX3_reads_5 : decode cX3_reads 5 = .ok (.ifCond .ne 5, 3) := by decide +kernel
theorem dX3_reads_8 : decode cX3_reads 8 = .ok (.iconst (-1), 1) := by decide +kernel
theorem dX3_reads_9 : decode cX3_reads 9 = .ok (.ireturn, 1) := by decide +kernel
theorem dX3_reads_10 : decode cX3_reads 10 = .ok (.aload_n 0, 1) := by decide +kernel
theorem dX3_reads_11 : decode cX3_reads 11 = .ok (.getfield 22, 3) := by decide +kernel
theorem dX3_reads_14 : decode cX3_reads 14 = .ok (.aload_n 0, 1) := by decide +kernel
theorem dX3_reads_15 : decode cX3_reads 15 = .ok (.getfield 10, 3) := by decide +kernel
theorem dX3_reads_18 : decode cX3_reads 18 = .ok (.invokevirtual 70, 3) := by decide +kernel
theorem dX3_reads_21 : decode cX3_reads 21 = .ok (.aload_n 0, 1) := by decide +kernel
theorem dX3_reads_22 : decode cX3_reads 22 = .ok (.getfield 10, 3) := by decide +kernel
theorem dX3_reads_25 : decode cX3_reads 25 = .ok (.iload_n 1, 1) := by decide +kernel
theorem dX3_reads_26 : decode cX3_reads 26 = .ok (.invokevirtual 108, 3) := by decide +kernel
theorem dX3_reads_29 : decode cX3_reads 29 = .ok (.ireturn, 1) := by decide +kernel
theorem dX3_moves_0 : decode cX3_moves 0 = .ok (.aload_n 0, 1) := by decide +kernel
theorem dX3_moves_1 : decode cX3_moves 1 = .ok (.iload_n 1, 1) := by decide +kernel
theorem dX3_moves_2 : decode cX3_moves 2 = .ok (.iload_n 2, 1) := by decide +kernel
theorem dX3_moves_3 : decode cX3_moves 3 = .ok (.invokevirtual 91, 3) := by decide +kernel
theorem dX3_moves_6 : decode cX3_moves 6 = .ok (.ifCond .eq 30, 3) := by decide +kernel
theorem dX3_moves_9 : decode cX3_moves 9 = .ok (.aload_n 0, 1) := by decide +kernel
theorem dX3_moves_10 : decode cX3_moves 10 = .ok (.iload_n 1, 1) := by decide +kernel
theorem dX3_moves_11 : decode cX3_moves 11 = .ok (.iload_n 3, 1) := by decide +kernel
theorem dX3_moves_12 : decode cX3_moves 12 = .ok (.invokevirtual 91, 3) := by decide +kernel
theorem dX3_moves_15 : decode cX3_moves 15 = .ok (.ifCond .eq 21, 3) := by decide +kernel
theorem dX3_moves_18 : decode cX3_moves 18 = .ok (.iload_n 2, 1) := by decide +kernel
theorem dX3_moves_19 : decode cX3_moves 19 = .ok (.iload_n 3, 1) := by decide +kernel
theorem dX3_moves_20 : decode cX3_moves 20 = .ok (.if_icmp .eq 16, 3) := by decide +kernel
theorem dX3_moves_23 : decode cX3_moves 23 = .ok (.iload 4, 2) := by decide +kernel
theorem dX3_moves_25 : decode cX3_moves 25 = .ok (.iconst 1, 1) := by decide +kernel
theorem dX3_moves_26 : decode cX3_moves 26 = .ok (.if_icmp .lt 10, 3) := by decide +kernel
theorem dX3_moves_29 : decode cX3_moves 29 = .ok (.iload 4, 2) := by decide +kernel
theorem dX3_moves_31 : decode cX3_moves 31 = .ok (.bipush 99, 2) := by decide +kernel
theorem dX3_moves_33 : decode cX3_moves 33 = .ok (.if_icmp .le 5, 3) := by decide +kernel
theorem dX3_moves_36 : decode cX3_moves 36 = .ok (.iconst (-1), 1) := by decide +kernel
theorem dX3_moves_37 : decode cX3_moves 37 = .ok (.ireturn, 1) := by decide +kernel
theorem dX3_moves_38 : decode cX3_moves 38 = .ok (.aload_n 0, 1) := by decide +kernel
theorem dX3_moves_39 : decode cX3_moves 39 = .ok (.getfield 10, 3) := by decide +kernel
theorem dX3_moves_42 : decode cX3_moves 42 = .ok (.iload_n 2, 1) := by decide +kernel
theorem dX3_moves_43 : decode cX3_moves 43 = .ok (.iload_n 1, 1) := by decide +kernel
theorem dX3_moves_44 : decode cX3_moves 44 = .ok (.invokevirtual 111, 3) := by decide +kernel
theorem dX3_moves_47 : decode cX3_moves 47 = .ok (.iload 4, 2) := by decide +kernel
theorem dX3_moves_49 : decode cX3_moves 49 = .ok (.if_icmp .ge 6, 3) := by decide +kernel
theorem dX3_moves_52 : decode cX3_moves 52 = .ok (.bipush (-2), 2) := by decide +kernel
theorem dX3_moves_54 : decode cX3_moves 54 = .ok (.ireturn, 1) := by decide +kernel
theorem dX3_moves_55 : decode cX3_moves 55 = .ok (.aload_n 0, 1) := by decide +kernel
theorem dX3_moves_56 : decode cX3_moves 56 = .ok (.getfield 22, 3) := by decide +kernel
theorem dX3_moves_59 : decode cX3_moves 59 = .ok (.aload_n 0, 1) := by decide +kernel
theorem dX3_moves_60 : decode cX3_moves 60 = .ok (.getfield 10, 3) := by decide +kernel
theorem dX3_moves_63 : decode cX3_moves 63 = .ok (.invokevirtual 70, 3) := by decide +kernel
theorem dX3_moves_66 : decode cX3_moves 66 = .ok (.aload_n 0, 1) := by decide +kernel
theorem dX3_moves_67 : decode cX3_moves 67 = .ok (.getfield 10, 3) := by decide +kernel
theorem dX3_moves_70 : decode cX3_moves 70 = .ok (.iload_n 1, 1) := by decide +kernel
theorem dX3_moves_71 : decode cX3_moves 71 = .ok (.iload_n 2, 1) := by decide +kernel
theorem dX3_moves_72 : decode cX3_moves 72 = .ok (.iload_n 3, 1) := by decide +kernel
theorem dX3_moves_73 : decode cX3_moves 73 = .ok (.iload 4, 2) := by decide +kernel
theorem dX3_moves_75 : decode cX3_moves 75 = .ok (.invokevirtual 114, 3) := by decide +kernel
theorem dX3_moves_78 : decode cX3_moves 78 = .ok (.ireturn, 1) := by decide +kernel
theorem dX3_evens_0 : decode cX3_evens 0 = .ok (.aload_n 0, 1) := by decide +kernel
theorem dX3_evens_1 : decode cX3_evens 1 = .ok (.iload_n 1, 1) := by decide +kernel
theorem dX3_evens_2 : decode cX3_evens 2 = .ok (.invokevirtual 77, 3) := by decide +kernel
theorem dX3_evens_5 : decode cX3_evens 5 = .ok (.ifCond .ne 5, 3) := by decide +kernel
theorem dX3_evens_8 : decode cX3_evens 8 = .ok (.iconst (-1), 1) := by decide +kernel
theorem dX3_evens_9 : decode cX3_evens 9 = .ok (.ireturn, 1) := by decide +kernel
theorem dX3_evens_10 : decode cX3_evens 10 = .ok (.aload_n 0, 1) := by decide +kernel
theorem dX3_evens_11 : decode cX3_evens 11 = .ok (.getfield 22, 3) := by decide +kernel
theorem dX3_evens_14 : decode cX3_evens 14 = .ok (.aload_n 0, 1) := by decide +kernel
theorem dX3_evens_15 : decode cX3_evens 15 = .ok (.getfield 10, 3) := by decide +kernel
theorem dX3_evens_18 : decode cX3_evens 18 = .ok (.invokevirtual 70, 3) := by decide +kernel
theorem dX3_evens_21 : decode cX3_evens 21 = .ok (.aload_n 0, 1) := by decide +kernel
theorem dX3_evens_22 : decode cX3_evens 22 = .ok (.getfield 10, 3) := by decide +kernel
theorem dX3_evens_25 : decode cX3_evens 25 = .ok (.iload_n 1, 1) := by decide +kernel
theorem dX3_evens_26 : decode cX3_evens 26 = .ok (.invokevirtual 118, 3) := by decide +kernel
theorem dX3_evens_29 : decode cX3_evens 29 = .ok (.ireturn, 1) := by decide +kernel
theorem dX3_bounds_0 : decode cX3_bounds 0 = .ok (.aload_n 0, 1) := by decide +kernel
theorem dX3_bounds_1 : decode cX3_bounds 1 = .ok (.iload_n 1, 1) := by decide +kernel
theorem dX3_bounds_2 : decode cX3_bounds 2 = .ok (.invokevirtual 77, 3) := by decide +kernel
theorem dX3_bounds_5 : decode cX3_bounds 5 = .ok (.ifCond .eq 35, 3) := by decide +kernel
theorem dX3_bounds_8 : decode cX3_bounds 8 = .ok (.iload_n 2, 1) := by decide +kernel
theorem dX3_bounds_9 : decode cX3_bounds 9 = .ok (.ifCond .lt 31, 3) := by decide +kernel
theorem dX3_bounds_12 : decode cX3_bounds 12 = .ok (.iload_n 2, 1) := by decide +kernel
theorem dX3_bounds_13 : decode cX3_bounds 13 = .ok (.bipush 99, 2) := by decide +kernel
theorem dX3_bounds_15 : decode cX3_bounds 15 = .ok (.if_icmp .gt 25, 3) := by decide +kernel
theorem dX3_bounds_18 : decode cX3_bounds 18 = .ok (.iload_n 3, 1) := by decide +kernel
theorem dX3_bounds_19 : decode cX3_bounds 19 = .ok (.ifCond .lt 21, 3) := by decide +kernel
theorem dX3_bounds_22 : decode cX3_bounds 22 = .ok (.iload_n 3, 1) := by decide +kernel
theorem dX3_bounds_23 : decode cX3_bounds 23 = .ok (.bipush 9, 2) := by decide +kernel
theorem dX3_bounds_25 : decode cX3_bounds 25 = .ok (.if_icmp .gt 15, 3) := by decide +kernel
theorem dX3_bounds_28 : decode cX3_bounds 28 = .ok (.iload 4, 2) := by decide +kernel
theorem dX3_bounds_30 : decode cX3_bounds 30 = .ok (.ifCond .lt 10, 3) := by decide +kernel
theorem dX3_bounds_33 : decode cX3_bounds 33 = .ok (.iload 4, 2) := by decide +kernel
theorem dX3_bounds_35 : decode cX3_bounds 35 = .ok (.bipush 99, 2) := by decide +kernel
theorem dX3_bounds_37 : decode cX3_bounds 37 = .ok (.if_icmp .le 5, 3) := by decide +kernel
theorem dX3_bounds_40 : decode cX3_bounds 40 = .ok (.iconst (-1), 1) := by decide +kernel
theorem dX3_bounds_41 : decode cX3_bounds 41 = .ok (.ireturn, 1) := by decide +kernel
theorem dX3_bounds_42 : decode cX3_bounds 42 = .ok (.aload_n 0, 1) := by decide +kernel
theorem dX3_bounds_43 : decode cX3_bounds 43 = .ok (.getfield 10, 3) := by decide +kernel
theorem dX3_bounds_46 : decode cX3_bounds 46 = .ok (.iload_n 1, 1) := by decide +kernel
theorem dX3_bounds_47 : decode cX3_bounds 47 = .ok (.iload_n 2, 1) := by decide +kernel
theorem dX3_bounds_48 : decode cX3_bounds 48 = .ok (.iload_n 3, 1) := by decide +kernel
theorem dX3_bounds_49 : decode cX3_bounds 49 = .ok (.iload 4, 2) := by decide +kernel
theorem dX3_bounds_51 : decode cX3_bounds 51 = .ok (.invokevirtual 121, 3) := by decide +kernel
theorem dX3_bounds_54 : decode cX3_bounds 54 = .ok (.ifCond .eq 6, 3) := by decide +kernel
theorem dX3_bounds_57 : decode cX3_bounds 57 = .ok (.bipush (-2), 2) := by decide +kernel
theorem dX3_bounds_59 : decode cX3_bounds 59 = .ok (.ireturn, 1) := by decide +kernel
theorem dX3_bounds_60 : decode cX3_bounds 60 = .ok (.aload_n 0, 1) := by decide +kernel
theorem dX3_bounds_61 : decode cX3_bounds 61 = .ok (.getfield 22, 3) := by decide +kernel
theorem dX3_bounds_64 : decode cX3_bounds 64 = .ok (.aload_n 0, 1) := by decide +kernel
theorem dX3_bounds_65 : decode cX3_bounds 65 = .ok (.getfield 10, 3) := by decide +kernel
theorem dX3_bounds_68 : decode cX3_bounds 68 = .ok (.invokevirtual 70, 3) := by decide +kernel
theorem dX3_bounds_71 : decode cX3_bounds 71 = .ok (.aload_n 0, 1) := by decide +kernel
theorem dX3_bounds_72 : decode cX3_bounds 72 = .ok (.getfield 10, 3) := by decide +kernel
theorem dX3_bounds_75 : decode cX3_bounds 75 = .ok (.iload_n 1, 1) := by decide +kernel
theorem dX3_bounds_76 : decode cX3_bounds 76 = .ok (.iload_n 2, 1) := by decide +kernel
theorem dX3_bounds_77 : decode cX3_bounds 77 = .ok (.iload_n 3, 1) := by decide +kernel
theorem dX3_bounds_78 : decode cX3_bounds 78 = .ok (.iload 4, 2) := by decide +kernel
theorem dX3_bounds_80 : decode cX3_bounds 80 = .ok (.invokevirtual 125, 3) := by decide +kernel
theorem dX3_bounds_83 : decode cX3_bounds 83 = .ok (.ireturn, 1) := by decide +kernel
theorem dX3_undo_0 : decode cX3_undo 0 = .ok (.aload_n 0, 1) := by decide +kernel
theorem dX3_undo_1 : decode cX3_undo 1 = .ok (.getfield 22, 3) := by decide +kernel
theorem dX3_undo_4 : decode cX3_undo 4 = .ok (.getfield 128, 3) := by decide +kernel
theorem dX3_undo_7 : decode cX3_undo 7 = .ok (.iconst 1, 1) := by decide +kernel
theorem dX3_undo_8 : decode cX3_undo 8 = .ok (.if_icmp .ge 6, 3) := by decide +kernel
theorem dX3_undo_11 : decode cX3_undo 11 = .ok (.bipush (-2), 2) := by decide +kernel
theorem dX3_undo_13 : decode cX3_undo 13 = .ok (.ireturn, 1) := by decide +kernel
theorem dX3_undo_14 : decode cX3_undo 14 = .ok (.aload_n 0, 1) := by decide +kernel
theorem dX3_undo_15 : decode cX3_undo 15 = .ok (.getfield 22, 3) := by decide +kernel
theorem dX3_undo_18 : decode cX3_undo 18 = .ok (.aload_n 0, 1) := by decide +kernel
theorem dX3_undo_19 : decode cX3_undo 19 = .ok (.getfield 10, 3) := by decide +kernel
theorem dX3_undo_22 : decode cX3_undo 22 = .ok (.invokevirtual 131, 3) := by decide +kernel
theorem dX3_undo_25 : decode cX3_undo 25 = .ok (.aload_n 0, 1) := by decide +kernel
theorem dX3_undo_26 : decode cX3_undo 26 = .ok (.getfield 22, 3) := by decide +kernel
theorem dX3_undo_29 : decode cX3_undo 29 = .ok (.getfield 128, 3) := by decide +kernel
theorem dX3_undo_32 : decode cX3_undo 32 = .ok (.ireturn, 1) := by decide +kernel
theorem dX3_copy_0 : decode cX3_copy 0 = .ok (.aload_n 0, 1) := by decide +kernel
theorem dX3_copy_1 : decode cX3_copy 1 = .ok (.iload_n 1, 1) := by decide +kernel
theorem dX3_copy_2 : decode cX3_copy 2 = .ok (.invokevirtual 77, 3) := by decide +kernel
theorem dX3_copy_5 : decode cX3_copy 5 = .ok (.ifCond .ne 5, 3) := by decide +kernel
theorem dX3_copy_8 : decode cX3_copy 8 = .ok (.iconst (-1), 1) := by decide +kernel
theorem dX3_copy_9 : decode cX3_copy 9 = .ok (.ireturn, 1) := by decide +kernel
theorem dX3_copy_10 : decode cX3_copy 10 = .ok (.iload_n 2, 1) := by decide +kernel
theorem dX3_copy_11 : decode cX3_copy 11 = .ok (.tableswitch 142 0 9 #[53, 63, 73, 83, 93, 103, 110, 119, 126, 133], 53) := by decide +kernel
theorem dX3_copy_64 : decode cX3_copy 64 = .ok (.aload_n 0, 1) := by decide +kernel
theorem dX3_copy_65 : decode cX3_copy 65 = .ok (.getfield 10, 3) := by decide +kernel
theorem dX3_copy_68 : decode cX3_copy 68 = .ok (.getfield 134, 3) := by decide +kernel
theorem dX3_copy_71 : decode cX3_copy 71 = .ok (.iload_n 1, 1) := by decide +kernel
theorem dX3_copy_72 : decode cX3_copy 72 = .ok (.iaload, 1) := by decide +kernel
theorem dX3_copy_73 : decode cX3_copy 73 = .ok (.ireturn, 1) := by decide +kernel
theorem dX3_copy_74 : decode cX3_copy 74 = .ok (.aload_n 0, 1) := by decide +kernel
theorem dX3_copy_75 : decode cX3_copy 75 = .ok (.getfield 10, 3) := by decide +kernel
theorem dX3_copy_78 : decode cX3_copy 78 = .ok (.getfield 137, 3) := by decide +kernel
theorem dX3_copy_81 : decode cX3_copy 81 = .ok (.iload_n 1, 1) := by decide +kernel
theorem dX3_copy_82 : decode cX3_copy 82 = .ok (.iaload, 1) := by decide +kernel
theorem dX3_copy_83 : decode cX3_copy 83 = .ok (.ireturn, 1) := by decide +kernel
theorem dX3_copy_84 : decode cX3_copy 84 = .ok (.aload_n 0, 1) := by decide +kernel
theorem dX3_copy_85 : decode cX3_copy 85 = .ok (.getfield 10, 3) := by decide +kernel
theorem dX3_copy_88 : decode cX3_copy 88 = .ok (.getfield 140, 3) := by decide +kernel
theorem dX3_copy_91 : decode cX3_copy 91 = .ok (.iload_n 1, 1) := by decide +kernel
theorem dX3_copy_92 : decode cX3_copy 92 = .ok (.iaload, 1) := by decide +kernel
theorem dX3_copy_93 : decode cX3_copy 93 = .ok (.ireturn, 1) := by decide +kernel
theorem dX3_copy_94 : decode cX3_copy 94 = .ok (.aload_n 0, 1) := by decide +kernel
theorem dX3_copy_95 : decode cX3_copy 95 = .ok (.getfield 10, 3) := by decide +kernel
theorem dX3_copy_98 : decode cX3_copy 98 = .ok (.getfield 95, 3) := by decide +kernel
theorem dX3_copy_101 : decode cX3_copy 101 = .ok (.iload_n 1, 1) := by decide +kernel
theorem dX3_copy_102 : decode cX3_copy 102 = .ok (.iaload, 1) := by decide +kernel
theorem dX3_copy_103 : decode cX3_copy 103 = .ok (.ireturn, 1) := by decide +kernel
theorem dX3_copy_104 : decode cX3_copy 104 = .ok (.aload_n 0, 1) := by decide +kernel
theorem dX3_copy_105 : decode cX3_copy 105 = .ok (.getfield 10, 3) := by decide +kernel
theorem dX3_copy_108 : decode cX3_copy 108 = .ok (.getfield 143, 3) := by decide +kernel
theorem dX3_copy_111 : decode cX3_copy 111 = .ok (.iload_n 1, 1) := by decide +kernel
theorem dX3_copy_112 : decode cX3_copy 112 = .ok (.iaload, 1) := by decide +kernel
theorem dX3_copy_113 : decode cX3_copy 113 = .ok (.ireturn, 1) := by decide +kernel
theorem dX3_copy_114 : decode cX3_copy 114 = .ok (.aload_n 0, 1) := by decide +kernel
theorem dX3_copy_115 : decode cX3_copy 115 = .ok (.iload_n 1, 1) := by decide +kernel
theorem dX3_copy_116 : decode cX3_copy 116 = .ok (.iconst 0, 1) := by decide +kernel
theorem dX3_copy_117 : decode cX3_copy 117 = .ok (.invokevirtual 146, 3) := by decide +kernel
theorem dX3_copy_120 : decode cX3_copy 120 = .ok (.ireturn, 1) := by decide +kernel
theorem dX3_copy_121 : decode cX3_copy 121 = .ok (.aload_n 0, 1) := by decide +kernel
theorem dX3_copy_122 : decode cX3_copy 122 = .ok (.getfield 10, 3) := by decide +kernel
theorem dX3_copy_125 : decode cX3_copy 125 = .ok (.iload_n 1, 1) := by decide +kernel
theorem dX3_copy_126 : decode cX3_copy 126 = .ok (.invokevirtual 149, 3) := by decide +kernel
theorem dX3_copy_129 : decode cX3_copy 129 = .ok (.ireturn, 1) := by decide +kernel
theorem dX3_copy_130 : decode cX3_copy 130 = .ok (.aload_n 0, 1) := by decide +kernel
theorem dX3_copy_131 : decode cX3_copy 131 = .ok (.iload_n 1, 1) := by decide +kernel
theorem dX3_copy_132 : decode cX3_copy 132 = .ok (.iconst 1, 1) := by decide +kernel
theorem dX3_copy_133 : decode cX3_copy 133 = .ok (.invokevirtual 146, 3) := by decide +kernel
theorem dX3_copy_136 : decode cX3_copy 136 = .ok (.ireturn, 1) := by decide +kernel
theorem dX3_copy_137 : decode cX3_copy 137 = .ok (.aload_n 0, 1) := by decide +kernel
theorem dX3_copy_138 : decode cX3_copy 138 = .ok (.iload_n 1, 1) := by decide +kernel
theorem dX3_copy_139 : decode cX3_copy 139 = .ok (.iconst 2, 1) := by decide +kernel
theorem dX3_copy_140 : decode cX3_copy 140 = .ok (.invokevirtual 146, 3) := by decide +kernel
theorem dX3_copy_143 : decode cX3_copy 143 = .ok (.ireturn, 1) := by decide +kernel
theorem dX3_copy_144 : decode cX3_copy 144 = .ok (.aload_n 0, 1) := by decide +kernel
theorem dX3_copy_145 : decode cX3_copy 145 = .ok (.getfield 10, 3) := by decide +kernel
theorem dX3_copy_148 : decode cX3_copy 148 = .ok (.iload_n 1, 1) := by decide +kernel
theorem dX3_copy_149 : decode cX3_copy 149 = .ok (.invokevirtual 152, 3) := by decide +kernel
theorem dX3_copy_152 : decode cX3_copy 152 = .ok (.ireturn, 1) := by decide +kernel
theorem dX3_copy_153 : decode cX3_copy 153 = .ok (.iconst (-1), 1) := by decide +kernel
theorem dX3_copy_154 : decode cX3_copy 154 = .ok (.ireturn, 1) := by decide +kernel
theorem dX3_pair_0 : decode cX3_pair 0 = .ok (.aload_n 0, 1) := by decide +kernel
theorem dX3_pair_1 : decode cX3_pair 1 = .ok (.iload_n 1, 1) := by decide +kernel
theorem dX3_pair_2 : decode cX3_pair 2 = .ok (.iload_n 2, 1) := by decide +kernel
theorem dX3_pair_3 : decode cX3_pair 3 = .ok (.invokevirtual 91, 3) := by decide +kernel
theorem dX3_pair_6 : decode cX3_pair 6 = .ok (.ifCond .ne 5, 3) := by decide +kernel
theorem dX3_pair_9 : decode cX3_pair 9 = .ok (.iconst (-1), 1) := by decide +kernel
theorem dX3_pair_10 : decode cX3_pair 10 = .ok (.ireturn, 1) := by decide +kernel
theorem dX3_pair_11 : decode cX3_pair 11 = .ok (.iload_n 3, 1) := by decide +kernel
theorem dX3_pair_12 : decode cX3_pair 12 = .ok (.tableswitch 80 0 3 #[32, 46, 60, 70], 32) := by decide +kernel
theorem dX3_pair_44 : decode cX3_pair 44 = .ok (.aload_n 0, 1) := by decide +kernel
theorem dX3_pair_45 : decode cX3_pair 45 = .ok (.getfield 10, 3) := by decide +kernel
theorem dX3_pair_48 : decode cX3_pair 48 = .ok (.getfield 155, 3) := by decide +kernel
theorem dX3_pair_51 : decode cX3_pair 51 = .ok (.iload_n 1, 1) := by decide +kernel
theorem dX3_pair_52 : decode cX3_pair 52 = .ok (.iload_n 2, 1) := by decide +kernel
theorem dX3_pair_53 : decode cX3_pair 53 = .ok (.invokestatic 158, 3) := by decide +kernel
theorem dX3_pair_56 : decode cX3_pair 56 = .ok (.iaload, 1) := by decide +kernel
theorem dX3_pair_57 : decode cX3_pair 57 = .ok (.ireturn, 1) := by decide +kernel
theorem dX3_pair_58 : decode cX3_pair 58 = .ok (.aload_n 0, 1) := by decide +kernel
theorem dX3_pair_59 : decode cX3_pair 59 = .ok (.getfield 10, 3) := by decide +kernel
theorem dX3_pair_62 : decode cX3_pair 62 = .ok (.getfield 161, 3) := by decide +kernel
theorem dX3_pair_65 : decode cX3_pair 65 = .ok (.iload_n 1, 1) := by decide +kernel
theorem dX3_pair_66 : decode cX3_pair 66 = .ok (.iload_n 2, 1) := by decide +kernel
theorem dX3_pair_67 : decode cX3_pair 67 = .ok (.invokestatic 158, 3) := by decide +kernel
theorem dX3_pair_70 : decode cX3_pair 70 = .ok (.iaload, 1) := by decide +kernel
theorem dX3_pair_71 : decode cX3_pair 71 = .ok (.ireturn, 1) := by decide +kernel
theorem dX3_pair_72 : decode cX3_pair 72 = .ok (.aload_n 0, 1) := by decide +kernel
theorem dX3_pair_73 : decode cX3_pair 73 = .ok (.getfield 10, 3) := by decide +kernel
theorem dX3_pair_76 : decode cX3_pair 76 = .ok (.iload_n 2, 1) := by decide +kernel
theorem dX3_pair_77 : decode cX3_pair 77 = .ok (.iload_n 1, 1) := by decide +kernel
theorem dX3_pair_78 : decode cX3_pair 78 = .ok (.invokevirtual 164, 3) := by decide +kernel
theorem dX3_pair_81 : decode cX3_pair 81 = .ok (.ireturn, 1) := by decide +kernel
theorem dX3_pair_82 : decode cX3_pair 82 = .ok (.aload_n 0, 1) := by decide +kernel
theorem dX3_pair_83 : decode cX3_pair 83 = .ok (.getfield 10, 3) := by decide +kernel
theorem dX3_pair_86 : decode cX3_pair 86 = .ok (.iload_n 2, 1) := by decide +kernel
theorem dX3_pair_87 : decode cX3_pair 87 = .ok (.iload_n 1, 1) := by decide +kernel
theorem dX3_pair_88 : decode cX3_pair 88 = .ok (.invokevirtual 111, 3) := by decide +kernel
theorem dX3_pair_91 : decode cX3_pair 91 = .ok (.ireturn, 1) := by decide +kernel
theorem dX3_pair_92 : decode cX3_pair 92 = .ok (.iconst (-1), 1) := by decide +kernel
theorem dX3_pair_93 : decode cX3_pair 93 = .ok (.ireturn, 1) := by decide +kernel
theorem dX3_write_0 : decode cX3_write 0 = .ok (.iload_n 1, 1) := by decide +kernel
theorem dX3_write_1 : decode cX3_write 1 = .ok (.ifCond .lt 14, 3) := by decide +kernel
theorem dX3_write_4 : decode cX3_write 4 = .ok (.iload_n 1, 1) := by decide +kernel
theorem dX3_write_5 : decode cX3_write 5 = .ok (.aload_n 0, 1) := by decide +kernel
theorem dX3_write_6 : decode cX3_write 6 = .ok (.getfield 10, 3) := by decide +kernel
theorem dX3_write_9 : decode cX3_write 9 = .ok (.getfield 81, 3) := by decide +kernel
theorem dX3_write_12 : decode cX3_write 12 = .ok (.if_icmp .lt 5, 3) := by decide +kernel
theorem dX3_write_15 : decode cX3_write 15 = .ok (.iconst (-1), 1) := by decide +kernel
theorem dX3_write_16 : decode cX3_write 16 = .ok (.ireturn, 1) := by decide +kernel
theorem dX3_write_17 : decode cX3_write 17 = .ok (.iload_n 2, 1) := by decide +kernel
theorem dX3_write_18 : decode cX3_write 18 = .ok (.tableswitch 100 0 4 #[34, 44, 54, 64, 82], 34) := by decide +kernel
theorem dX3_write_52 : decode cX3_write 52 = .ok (.aload_n 0, 1) := by decide +kernel
theorem dX3_write_53 : decode cX3_write 53 = .ok (.getfield 10, 3) := by decide +kernel
theorem dX3_write_56 : decode cX3_write 56 = .ok (.getfield 167, 3) := by decide +kernel
theorem dX3_write_59 : decode cX3_write 59 = .ok (.iload_n 1, 1) := by decide +kernel
theorem dX3_write_60 : decode cX3_write 60 = .ok (.iaload, 1) := by decide +kernel
theorem dX3_write_61 : decode cX3_write 61 = .ok (.ireturn, 1) := by decide +kernel
theorem dX3_write_62 : decode cX3_write 62 = .ok (.aload_n 0, 1) := by decide +kernel
theorem dX3_write_63 : decode cX3_write 63 = .ok (.getfield 10, 3) := by decide +kernel
theorem dX3_write_66 : decode cX3_write 66 = .ok (.getfield 170, 3) := by decide +kernel
theorem dX3_write_69 : decode cX3_write 69 = .ok (.iload_n 1, 1) := by decide +kernel
theorem dX3_write_70 : decode cX3_write 70 = .ok (.iaload, 1) := by decide +kernel
theorem dX3_write_71 : decode cX3_write 71 = .ok (.ireturn, 1) := by decide +kernel
theorem dX3_write_72 : decode cX3_write 72 = .ok (.aload_n 0, 1) := by decide +kernel
theorem dX3_write_73 : decode cX3_write 73 = .ok (.getfield 10, 3) := by decide +kernel
theorem dX3_write_76 : decode cX3_write 76 = .ok (.getfield 173, 3) := by decide +kernel
theorem dX3_write_79 : decode cX3_write 79 = .ok (.iload_n 1, 1) := by decide +kernel
theorem dX3_write_80 : decode cX3_write 80 = .ok (.iaload, 1) := by decide +kernel
theorem dX3_write_81 : decode cX3_write 81 = .ok (.ireturn, 1) := by decide +kernel
theorem dX3_write_82 : decode cX3_write 82 = .ok (.aload_n 0, 1) := by decide +kernel
theorem dX3_write_83 : decode cX3_write 83 = .ok (.getfield 10, 3) := by decide +kernel
theorem dX3_write_86 : decode cX3_write 86 = .ok (.aload_n 0, 1) := by decide +kernel
theorem dX3_write_87 : decode cX3_write 87 = .ok (.getfield 10, 3) := by decide +kernel
theorem dX3_write_90 : decode cX3_write 90 = .ok (.getfield 95, 3) := by decide +kernel
theorem dX3_write_93 : decode cX3_write 93 = .ok (.iconst 1, 1) := by decide +kernel
theorem dX3_write_94 : decode cX3_write 94 = .ok (.iload_n 1, 1) := by decide +kernel
theorem dX3_write_95 : decode cX3_write 95 = .ok (.ishl, 1) := by decide +kernel
theorem dX3_write_96 : decode cX3_write 96 = .ok (.invokevirtual 176, 3) := by decide +kernel
theorem dX3_write_99 : decode cX3_write 99 = .ok (.ireturn, 1) := by decide +kernel
theorem dX3_write_100 : decode cX3_write 100 = .ok (.aload_n 0, 1) := by decide +kernel
theorem dX3_write_101 : decode cX3_write 101 = .ok (.getfield 10, 3) := by decide +kernel
theorem dX3_write_104 : decode cX3_write 104 = .ok (.aload_n 0, 1) := by decide +kernel
theorem dX3_write_105 : decode cX3_write 105 = .ok (.getfield 10, 3) := by decide +kernel
theorem dX3_write_108 : decode cX3_write 108 = .ok (.getfield 143, 3) := by decide +kernel
theorem dX3_write_111 : decode cX3_write 111 = .ok (.iconst 1, 1) := by decide +kernel
theorem dX3_write_112 : decode cX3_write 112 = .ok (.iload_n 1, 1) := by decide +kernel
theorem dX3_write_113 : decode cX3_write 113 = .ok (.ishl, 1) := by decide +kernel
theorem dX3_write_114 : decode cX3_write 114 = .ok (.invokevirtual 176, 3) := by decide +kernel
theorem dX3_write_117 : decode cX3_write 117 = .ok (.ireturn, 1) := by decide +kernel
theorem dX3_write_118 : decode cX3_write 118 = .ok (.iconst (-1), 1) := by decide +kernel
theorem dX3_write_119 : decode cX3_write 119 = .ok (.ireturn, 1) := by decide +kernel
theorem dX3_costs_0 : decode cX3_costs 0 = .ok (.aload_n 0, 1) := by decide +kernel
theorem dX3_costs_1 : decode cX3_costs 1 = .ok (.iload_n 1, 1) := by decide +kernel
theorem dX3_costs_2 : decode cX3_costs 2 = .ok (.invokevirtual 77, 3) := by decide +kernel
theorem dX3_costs_5 : decode cX3_costs 5 = .ok (.ifCond .eq 15, 3) := by decide +kernel
theorem dX3_costs_8 : decode cX3_costs 8 = .ok (.iload_n 2, 1) := by decide +kernel
theorem dX3_costs_9 : decode cX3_costs 9 = .ok (.iconst 1, 1) := by decide +kernel
theorem dX3_costs_10 : decode cX3_costs 10 = .ok (.if_icmp .lt 10, 3) := by decide +kernel
theorem dX3_costs_13 : decode cX3_costs 13 = .ok (.iload_n 2, 1) := by decide +kernel
theorem dX3_costs_14 : decode cX3_costs 14 = .ok (.sipush 999, 3) := by decide +kernel
theorem dX3_costs_17 : decode cX3_costs 17 = .ok (.if_icmp .le 5, 3) := by decide +kernel
theorem dX3_costs_20 : decode cX3_costs 20 = .ok (.iconst (-1), 1) := by decide +kernel
theorem dX3_costs_21 : decode cX3_costs 21 = .ok (.ireturn, 1) := by decide +kernel
theorem dX3_costs_22 : decode cX3_costs 22 = .ok (.aload_n 0, 1) := by decide +kernel
theorem dX3_costs_23 : decode cX3_costs 23 = .ok (.getfield 10, 3) := by decide +kernel
theorem dX3_costs_26 : decode cX3_costs 26 = .ok (.iload_n 1, 1) := by decide +kernel
theorem dX3_costs_27 : decode cX3_costs 27 = .ok (.iload_n 2, 1) := by decide +kernel
theorem dX3_costs_28 : decode cX3_costs 28 = .ok (.invokevirtual 180, 3) := by decide +kernel
theorem dX3_costs_31 : decode cX3_costs 31 = .ok (.ireturn, 1) := by decide +kernel
theorem dX3_sees_0 : decode cX3_sees 0 = .ok (.iload_n 1, 1) := by decide +kernel
theorem dX3_sees_1 : decode cX3_sees 1 = .ok (.ifCond .lt 19, 3) := by decide +kernel
theorem dX3_sees_4 : decode cX3_sees 4 = .ok (.iload_n 1, 1) := by decide +kernel
theorem dX3_sees_5 : decode cX3_sees 5 = .ok (.iconst 3, 1) := by decide +kernel
theorem dX3_sees_6 : decode cX3_sees 6 = .ok (.if_icmp .ge 14, 3) := by decide +kernel
theorem dX3_sees_9 : decode cX3_sees 9 = .ok (.iload_n 2, 1) := by decide +kernel
theorem dX3_sees_10 : decode cX3_sees 10 = .ok (.ifCond .lt 10, 3) := by decide +kernel
theorem dX3_sees_13 : decode cX3_sees 13 = .ok (.iload_n 2, 1) := by decide +kernel
theorem dX3_sees_14 : decode cX3_sees 14 = .ok (.sipush 999, 3) := by decide +kernel
theorem dX3_sees_17 : decode cX3_sees 17 = .ok (.if_icmp .le 5, 3) := by decide +kernel
theorem dX3_sees_20 : decode cX3_sees 20 = .ok (.iconst (-1), 1) := by decide +kernel
theorem dX3_sees_21 : decode cX3_sees 21 = .ok (.ireturn, 1) := by decide +kernel
theorem dX3_sees_22 : decode cX3_sees 22 = .ok (.aload_n 0, 1) := by decide +kernel
theorem dX3_sees_23 : decode cX3_sees 23 = .ok (.getfield 48, 3) := by decide +kernel
theorem dX3_sees_26 : decode cX3_sees 26 = .ok (.bipush 6, 2) := by decide +kernel
theorem dX3_sees_28 : decode cX3_sees 28 = .ok (.if_icmp .lt 6, 3) := by decide +kernel
theorem dX3_sees_31 : decode cX3_sees 31 = .ok (.bipush (-3), 2) := by decide +kernel
theorem dX3_sees_33 : decode cX3_sees 33 = .ok (.ireturn, 1) := by decide +kernel
theorem dX3_sees_34 : decode cX3_sees 34 = .ok (.aload_n 0, 1) := by decide +kernel
theorem dX3_sees_35 : decode cX3_sees 35 = .ok (.getfield 41, 3) := by decide +kernel
theorem dX3_sees_38 : decode cX3_sees 38 = .ok (.aload_n 0, 1) := by decide +kernel
theorem dX3_sees_39 : decode cX3_sees 39 = .ok (.getfield 48, 3) := by decide +kernel
theorem dX3_sees_42 : decode cX3_sees 42 = .ok (.iload_n 1, 1) := by decide +kernel
theorem dX3_sees_43 : decode cX3_sees 43 = .ok (.iastore, 1) := by decide +kernel
theorem dX3_sees_44 : decode cX3_sees 44 = .ok (.aload_n 0, 1) := by decide +kernel
theorem dX3_sees_45 : decode cX3_sees 45 = .ok (.getfield 45, 3) := by decide +kernel
theorem dX3_sees_48 : decode cX3_sees 48 = .ok (.aload_n 0, 1) := by decide +kernel
theorem dX3_sees_49 : decode cX3_sees 49 = .ok (.getfield 48, 3) := by decide +kernel
theorem dX3_sees_52 : decode cX3_sees 52 = .ok (.iload_n 2, 1) := by decide +kernel
theorem dX3_sees_53 : decode cX3_sees 53 = .ok (.iastore, 1) := by decide +kernel
theorem dX3_sees_54 : decode cX3_sees 54 = .ok (.aload_n 0, 1) := by decide +kernel
theorem dX3_sees_55 : decode cX3_sees 55 = .ok (.dup, 1) := by decide +kernel
theorem dX3_sees_56 : decode cX3_sees 56 = .ok (.getfield 48, 3) := by decide +kernel
theorem dX3_sees_59 : decode cX3_sees 59 = .ok (.iconst 1, 1) := by decide +kernel
theorem dX3_sees_60 : decode cX3_sees 60 = .ok (.iadd, 1) := by decide +kernel
theorem dX3_sees_61 : decode cX3_sees 61 = .ok (.putfield 48, 3) := by decide +kernel
theorem dX3_sees_64 : decode cX3_sees 64 = .ok (.aload_n 0, 1) := by decide +kernel
theorem dX3_sees_65 : decode cX3_sees 65 = .ok (.getfield 48, 3) := by decide +kernel
theorem dX3_sees_68 : decode cX3_sees 68 = .ok (.ireturn, 1) := by decide +kernel
theorem dX3_forget_0 : decode cX3_forget 0 = .ok (.aload_n 0, 1) := by decide +kernel
theorem dX3_forget_1 : decode cX3_forget 1 = .ok (.getfield 48, 3) := by decide +kernel
theorem dX3_forget_4 : decode cX3_forget 4 = .ok (.istore_n 1, 1) := by decide +kernel
theorem dX3_forget_5 : decode cX3_forget 5 = .ok (.aload_n 0, 1) := by decide +kernel
theorem dX3_forget_6 : decode cX3_forget 6 = .ok (.iconst 0, 1) := by decide +kernel
theorem dX3_forget_7 : decode cX3_forget 7 = .ok (.putfield 48, 3) := by decide +kernel
theorem dX3_forget_10 : decode cX3_forget 10 = .ok (.iload_n 1, 1) := by decide +kernel
theorem dX3_forget_11 : decode cX3_forget 11 = .ok (.ireturn, 1) := by decide +kernel
theorem dX3_which_0 : decode cX3_which 0 = .ok (.iconst 0, 1) := by decide +kernel
theorem dX3_which_1 : decode cX3_which 1 = .ok (.istore_n 1, 1) := by decide +kernel
theorem dX3_which_2 : decode cX3_which 2 = .ok (.iconst 0, 1) := by decide +kernel
theorem dX3_which_3 : decode cX3_which 3 = .ok (.istore_n 2, 1) := by decide +kernel
theorem dX3_which_4 : decode cX3_which 4 = .ok (.iload_n 2, 1) := by decide +kernel
theorem dX3_which_5 : decode cX3_which 5 = .ok (.aload_n 0, 1) := by decide +kernel
theorem dX3_which_6 : decode cX3_which 6 = .ok (.getfield 10, 3) := by decide +kernel
theorem dX3_which_9 : decode cX3_which 9 = .ok (.getfield 183, 3) := by decide +kernel
theorem dX3_which_12 : decode cX3_which 12 = .ok (.if_icmp .ge 23, 3) := by decide +kernel
theorem dX3_which_15 : decode cX3_which 15 = .ok (.aload_n 0, 1) := by decide +kernel
theorem dX3_which_16 : decode cX3_which 16 = .ok (.iload_n 2, 1) := by decide +kernel
theorem dX3_which_17 : decode cX3_which 17 = .ok (.invokevirtual 186, 3) := by decide +kernel
theorem dX3_which_20 : decode cX3_which 20 = .ok (.ifCond .eq 9, 3) := by decide +kernel
theorem dX3_which_23 : decode cX3_which 23 = .ok (.iload_n 1, 1) := by decide +kernel
theorem dX3_which_24 : decode cX3_which 24 = .ok (.iconst 1, 1) := by decide +kernel
theorem dX3_which_25 : decode cX3_which 25 = .ok (.iload_n 2, 1) := by decide +kernel
theorem dX3_which_26 : decode cX3_which 26 = .ok (.ishl, 1) := by decide +kernel
theorem dX3_which_27 : decode cX3_which 27 = .ok (.ior, 1) := by decide +kernel
theorem dX3_which_28 : decode cX3_which 28 = .ok (.istore_n 1, 1) := by decide +kernel
theorem dX3_which_29 : decode cX3_which 29 = .ok (.iinc 2 1, 3) := by decide +kernel
theorem dX3_which_32 : decode cX3_which 32 = .ok (.goto (-28), 3) := by decide +kernel
theorem dX3_which_35 : decode cX3_which 35 = .ok (.iload_n 1, 1) := by decide +kernel
theorem dX3_which_36 : decode cX3_which 36 = .ok (.ireturn, 1) := by decide +kernel
theorem dX3_ask_0 : decode cX3_ask 0 = .ok (.aload_n 0, 1) := by decide +kernel
theorem dX3_ask_1 : decode cX3_ask 1 = .ok (.invokevirtual 189, 3) := by decide +kernel
theorem dX3_ask_4 : decode cX3_ask 4 = .ok (.istore_n 1, 1) := by decide +kernel
theorem dX3_ask_5 : decode cX3_ask 5 = .ok (.iload_n 1, 1) := by decide +kernel
theorem dX3_ask_6 : decode cX3_ask 6 = .ok (.invokestatic 98, 3) := by decide +kernel
theorem dX3_ask_9 : decode cX3_ask 9 = .ok (.iconst 1, 1) := by decide +kernel
theorem dX3_ask_10 : decode cX3_ask 10 = .ok (.if_icmp .gt 6, 3) := by decide +kernel
theorem dX3_ask_13 : decode cX3_ask 13 = .ok (.bipush (-9), 2) := by decide +kernel
theorem dX3_ask_15 : decode cX3_ask 15 = .ok (.ireturn, 1) := by decide +kernel
theorem dX3_ask_16 : decode cX3_ask 16 = .ok (.bipush (-9), 2) := by decide +kernel
theorem dX3_ask_18 : decode cX3_ask 18 = .ok (.istore_n 2, 1) := by decide +kernel
theorem dX3_ask_19 : decode cX3_ask 19 = .ok (.iconst 5, 1) := by decide +kernel
theorem dX3_ask_20 : decode cX3_ask 20 = .ok (.istore_n 3, 1) := by decide +kernel
theorem dX3_ask_21 : decode cX3_ask 21 = .ok (.iconst 0, 1) := by decide +kernel
theorem dX3_ask_22 : decode cX3_ask 22 = .ok (.istore 4, 2) := by decide +kernel
theorem dX3_ask_24 : decode cX3_ask 24 = .ok (.iload 4, 2) := by decide +kernel
theorem dX3_ask_26 : decode cX3_ask 26 = .ok (.iconst 3, 1) := by decide +kernel
theorem dX3_ask_27 : decode cX3_ask 27 = .ok (.if_icmp .ge 30, 3) := by decide +kernel
theorem dX3_ask_30 : decode cX3_ask 30 = .ok (.aload_n 0, 1) := by decide +kernel
theorem dX3_ask_31 : decode cX3_ask 31 = .ok (.iload_n 1, 1) := by decide +kernel
theorem dX3_ask_32 : decode cX3_ask 32 = .ok (.iload 4, 2) := by decide +kernel
theorem dX3_ask_34 : decode cX3_ask 34 = .ok (.invokevirtual 192, 3) := by decide +kernel
theorem dX3_ask_37 : decode cX3_ask 37 = .ok (.istore 5, 2) := by decide +kernel
theorem dX3_ask_39 : decode cX3_ask 39 = .ok (.iload 5, 2) := by decide +kernel
theorem dX3_ask_41 : decode cX3_ask 41 = .ok (.iload_n 3, 1) := by decide +kernel
theorem dX3_ask_42 : decode cX3_ask 42 = .ok (.if_icmp .ge 9, 3) := by decide +kernel
theorem dX3_ask_45 : decode cX3_ask 45 = .ok (.iload 5, 2) := by decide +kernel
theorem dX3_ask_47 : decode cX3_ask 47 = .ok (.istore_n 3, 1) := by decide +kernel
theorem dX3_ask_48 : decode cX3_ask 48 = .ok (.iload 4, 2) := by decide +kernel
theorem dX3_ask_50 : decode cX3_ask 50 = .ok (.istore_n 2, 1) := by decide +kernel
theorem dX3_ask_51 : decode cX3_ask 51 = .ok (.iinc 4 1, 3) := by decide +kernel
theorem dX3_ask_54 : decode cX3_ask 54 = .ok (.goto (-30), 3) := by decide +kernel
theorem dX3_ask_57 : decode cX3_ask 57 = .ok (.iload_n 2, 1) := by decide +kernel
theorem dX3_ask_58 : decode cX3_ask 58 = .ok (.ireturn, 1) := by decide +kernel
theorem dX3_keep_0 : decode cX3_keep 0 = .ok (.iload_n 1, 1) := by decide +kernel
theorem dX3_keep_1 : decode cX3_keep 1 = .ok (.ifCond .lt 8, 3) := by decide +kernel
theorem dX3_keep_4 : decode cX3_keep 4 = .ok (.iload_n 1, 1) := by decide +kernel
theorem dX3_keep_5 : decode cX3_keep 5 = .ok (.iconst 2, 1) := by decide +kernel
theorem dX3_keep_6 : decode cX3_keep 6 = .ok (.if_icmp .lt 5, 3) := by decide +kernel
theorem dX3_keep_9 : decode cX3_keep 9 = .ok (.iconst (-1), 1) := by decide +kernel
theorem dX3_keep_10 : decode cX3_keep 10 = .ok (.ireturn, 1) := by decide +kernel
theorem dX3_keep_11 : decode cX3_keep 11 = .ok (.aload_n 0, 1) := by decide +kernel
theorem dX3_keep_12 : decode cX3_keep 12 = .ok (.getfield 33, 3) := by decide +kernel
theorem dX3_keep_15 : decode cX3_keep 15 = .ok (.iload_n 1, 1) := by decide +kernel
theorem dX3_keep_16 : decode cX3_keep 16 = .ok (.aaload, 1) := by decide +kernel
theorem dX3_keep_17 : decode cX3_keep 17 = .ok (.aload_n 0, 1) := by decide +kernel
theorem dX3_keep_18 : decode cX3_keep 18 = .ok (.getfield 10, 3) := by decide +kernel
theorem dX3_keep_21 : decode cX3_keep 21 = .ok (.invokevirtual 74, 3) := by decide +kernel
theorem dX3_keep_24 : decode cX3_keep 24 = .ok (.aload_n 0, 1) := by decide +kernel
theorem dX3_keep_25 : decode cX3_keep 25 = .ok (.getfield 37, 3) := by decide +kernel
theorem dX3_keep_28 : decode cX3_keep 28 = .ok (.iload_n 1, 1) := by decide +kernel
theorem dX3_keep_29 : decode cX3_keep 29 = .ok (.iconst 1, 1) := by decide +kernel
theorem dX3_keep_30 : decode cX3_keep 30 = .ok (.bastore, 1) := by decide +kernel
theorem dX3_keep_31 : decode cX3_keep 31 = .ok (.aload_n 0, 1) := by decide +kernel
theorem dX3_keep_32 : decode cX3_keep 32 = .ok (.getfield 10, 3) := by decide +kernel
theorem dX3_keep_35 : decode cX3_keep 35 = .ok (.getfield 88, 3) := by decide +kernel
theorem dX3_keep_38 : decode cX3_keep 38 = .ok (.ireturn, 1) := by decide +kernel
theorem dX3_back_0 : decode cX3_back 0 = .ok (.iload_n 1, 1) := by decide +kernel
theorem dX3_back_1 : decode cX3_back 1 = .ok (.ifCond .lt 8, 3) := by decide +kernel
theorem dX3_back_4 : decode cX3_back 4 = .ok (.iload_n 1, 1) := by decide +kernel
theorem dX3_back_5 : decode cX3_back 5 = .ok (.iconst 2, 1) := by decide +kernel
theorem dX3_back_6 : decode cX3_back 6 = .ok (.if_icmp .lt 5, 3) := by decide +kernel
theorem dX3_back_9 : decode cX3_back 9 = .ok (.iconst (-1), 1) := by decide +kernel
theorem dX3_back_10 : decode cX3_back 10 = .ok (.ireturn, 1) := by decide +kernel
theorem dX3_back_11 : decode cX3_back 11 = .ok (.aload_n 0, 1) := by decide +kernel
theorem dX3_back_12 : decode cX3_back 12 = .ok (.getfield 37, 3) := by decide +kernel
theorem dX3_back_15 : decode cX3_back 15 = .ok (.iload_n 1, 1) := by decide +kernel
theorem dX3_back_16 : decode cX3_back 16 = .ok (.baload, 1) := by decide +kernel
theorem dX3_back_17 : decode cX3_back 17 = .ok (.ifCond .ne 6, 3) := by decide +kernel
theorem dX3_back_20 : decode cX3_back 20 = .ok (.bipush (-2), 2) := by decide +kernel
theorem dX3_back_22 : decode cX3_back 22 = .ok (.ireturn, 1) := by decide +kernel
theorem dX3_back_23 : decode cX3_back 23 = .ok (.aload_n 0, 1) := by decide +kernel
theorem dX3_back_24 : decode cX3_back 24 = .ok (.getfield 10, 3) := by decide +kernel
theorem dX3_back_27 : decode cX3_back 27 = .ok (.aload_n 0, 1) := by decide +kernel
theorem dX3_back_28 : decode cX3_back 28 = .ok (.getfield 33, 3) := by decide +kernel
theorem dX3_back_31 : decode cX3_back 31 = .ok (.iload_n 1, 1) := by decide +kernel
theorem dX3_back_32 : decode cX3_back 32 = .ok (.aaload, 1) := by decide +kernel
theorem dX3_back_33 : decode cX3_back 33 = .ok (.invokevirtual 74, 3) := by decide +kernel
theorem dX3_back_36 : decode cX3_back 36 = .ok (.aload_n 0, 1) := by decide +kernel
theorem dX3_back_37 : decode cX3_back 37 = .ok (.getfield 22, 3) := by decide +kernel
theorem dX3_back_40 : decode cX3_back 40 = .ok (.invokevirtual 195, 3) := by decide +kernel
theorem dX3_back_43 : decode cX3_back 43 = .ok (.aload_n 0, 1) := by decide +kernel
theorem dX3_back_44 : decode cX3_back 44 = .ok (.getfield 10, 3) := by decide +kernel
theorem dX3_back_47 : decode cX3_back 47 = .ok (.getfield 88, 3) := by decide +kernel
theorem dX3_back_50 : decode cX3_back 50 = .ok (.ireturn, 1) := by decide +kernel
theorem dX3_count_0 : decode cX3_count 0 = .ok (.iload_n 1, 1) := by decide +kernel
theorem dX3_count_1 : decode cX3_count 1 = .ok (.tableswitch 129 0 7 #[47, 55, 63, 71, 86, 108, 113, 121], 47) := by decide +kernel
theorem dX3_count_48 : decode cX3_count 48 = .ok (.aload_n 0, 1) := by decide +kernel
theorem dX3_count_49 : decode cX3_count 49 = .ok (.getfield 10, 3) := by decide +kernel
theorem dX3_count_52 : decode cX3_count 52 = .ok (.getfield 183, 3) := by decide +kernel
theorem dX3_count_55 : decode cX3_count 55 = .ok (.ireturn, 1) := by decide +kernel
theorem dX3_count_56 : decode cX3_count 56 = .ok (.aload_n 0, 1) := by decide +kernel
theorem dX3_count_57 : decode cX3_count 57 = .ok (.getfield 10, 3) := by decide +kernel
theorem dX3_count_60 : decode cX3_count 60 = .ok (.getfield 88, 3) := by decide +kernel
theorem dX3_count_63 : decode cX3_count 63 = .ok (.ireturn, 1) := by decide +kernel
theorem dX3_count_64 : decode cX3_count 64 = .ok (.aload_n 0, 1) := by decide +kernel
theorem dX3_count_65 : decode cX3_count 65 = .ok (.getfield 10, 3) := by decide +kernel
theorem dX3_count_68 : decode cX3_count 68 = .ok (.getfield 81, 3) := by decide +kernel
theorem dX3_count_71 : decode cX3_count 71 = .ok (.ireturn, 1) := by decide +kernel
theorem dX3_count_72 : decode cX3_count 72 = .ok (.aload_n 0, 1) := by decide +kernel
theorem dX3_count_73 : decode cX3_count 73 = .ok (.getfield 10, 3) := by decide +kernel
theorem dX3_count_76 : decode cX3_count 76 = .ok (.aload_n 0, 1) := by decide +kernel
theorem dX3_count_77 : decode cX3_count 77 = .ok (.getfield 10, 3) := by decide +kernel
theorem dX3_count_80 : decode cX3_count 80 = .ok (.invokevirtual 198, 3) := by decide +kernel
theorem dX3_count_83 : decode cX3_count 83 = .ok (.invokevirtual 201, 3) := by decide +kernel
theorem dX3_count_86 : decode cX3_count 86 = .ok (.ireturn, 1) := by decide +kernel
theorem dX3_count_87 : decode cX3_count 87 = .ok (.aload_n 0, 1) := by decide +kernel
theorem dX3_count_88 : decode cX3_count 88 = .ok (.getfield 10, 3) := by decide +kernel
theorem dX3_count_91 : decode cX3_count 91 = .ok (.aload_n 0, 1) := by decide +kernel
theorem dX3_count_92 : decode cX3_count 92 = .ok (.getfield 10, 3) := by decide +kernel
theorem dX3_count_95 : decode cX3_count 95 = .ok (.getfield 95, 3) := by decide +kernel
theorem dX3_count_98 : decode cX3_count 98 = .ok (.aload_n 0, 1) := by decide +kernel
theorem dX3_count_99 : decode cX3_count 99 = .ok (.getfield 10, 3) := by decide +kernel
theorem dX3_count_102 : decode cX3_count 102 = .ok (.invokevirtual 198, 3) := by decide +kernel
theorem dX3_count_105 : decode cX3_count 105 = .ok (.invokevirtual 176, 3) := by decide +kernel
theorem dX3_count_108 : decode cX3_count 108 = .ok (.ireturn, 1) := by decide +kernel
theorem dX3_count_109 : decode cX3_count 109 = .ok (.aload_n 0, 1) := by decide +kernel
theorem dX3_count_110 : decode cX3_count 110 = .ok (.getfield 48, 3) := by decide +kernel
theorem dX3_count_113 : decode cX3_count 113 = .ok (.ireturn, 1) := by decide +kernel
theorem dX3_count_114 : decode cX3_count 114 = .ok (.aload_n 0, 1) := by decide +kernel
theorem dX3_count_115 : decode cX3_count 115 = .ok (.getfield 29, 3) := by decide +kernel
theorem dX3_count_118 : decode cX3_count 118 = .ok (.getfield 55, 3) := by decide +kernel
theorem dX3_count_121 : decode cX3_count 121 = .ok (.ireturn, 1) := by decide +kernel
theorem dX3_count_122 : decode cX3_count 122 = .ok (.aload_n 0, 1) := by decide +kernel
theorem dX3_count_123 : decode cX3_count 123 = .ok (.getfield 22, 3) := by decide +kernel
theorem dX3_count_126 : decode cX3_count 126 = .ok (.getfield 128, 3) := by decide +kernel
theorem dX3_count_129 : decode cX3_count 129 = .ok (.ireturn, 1) := by decide +kernel
theorem dX3_count_130 : decode cX3_count 130 = .ok (.iconst (-1), 1) := by decide +kernel
theorem dX3_count_131 : decode cX3_count 131 = .ok (.ireturn, 1) := by decide +kernel
theorem dX3_isCopy_0 : decode cX3_isCopy 0 = .ok (.iload_n 1, 1) := by decide +kernel
theorem dX3_isCopy_1 : decode cX3_isCopy 1 = .ok (.ifCond .lt 18, 3) := by decide +kernel
theorem dX3_isCopy_4 : decode cX3_isCopy 4 = .ok (.iload_n 1, 1) := by decide +kernel
theorem dX3_isCopy_5 : decode cX3_isCopy 5 = .ok (.aload_n 0, 1) := by decide +kernel
theorem dX3_isCopy_6 : decode cX3_isCopy 6 = .ok (.getfield 10, 3) := by decide +kernel
theorem dX3_isCopy_9 : decode cX3_isCopy 9 = .ok (.getfield 183, 3) := by decide +kernel
theorem dX3_isCopy_12 : decode cX3_isCopy 12 = .ok (.if_icmp .ge 7, 3) := by decide +kernel
theorem dX3_isCopy_15 : decode cX3_isCopy 15 = .ok (.iconst 1, 1) := by decide +kernel
theorem dX3_isCopy_16 : decode cX3_isCopy 16 = .ok (.goto 4, 3) := by decide +kernel
theorem dX3_isCopy_19 : decode cX3_isCopy 19 = .ok (.iconst 0, 1) := by decide +kernel
theorem dX3_isCopy_20 : decode cX3_isCopy 20 = .ok (.ireturn, 1) := by decide +kernel
theorem dX3_arePair_0 : decode cX3_arePair 0 = .ok (.aload_n 0, 1) := by decide +kernel
theorem dX3_arePair_1 : decode cX3_arePair 1 = .ok (.iload_n 1, 1) := by decide +kernel
theorem dX3_arePair_2 : decode cX3_arePair 2 = .ok (.invokevirtual 77, 3) := by decide +kernel
theorem dX3_arePair_5 : decode cX3_arePair 5 = .ok (.ifCond .eq 20, 3) := by decide +kernel
theorem dX3_arePair_8 : decode cX3_arePair 8 = .ok (.aload_n 0, 1) := by decide +kernel
theorem dX3_arePair_9 : decode cX3_arePair 9 = .ok (.iload_n 2, 1) := by decide +kernel
theorem dX3_arePair_10 : decode cX3_arePair 10 = .ok (.invokevirtual 77, 3) := by decide +kernel
theorem dX3_arePair_13 : decode cX3_arePair 13 = .ok (.ifCond .eq 12, 3) := by decide +kernel
theorem dX3_arePair_16 : decode cX3_arePair 16 = .ok (.iload_n 1, 1) := by decide +kernel
theorem dX3_arePair_17 : decode cX3_arePair 17 = .ok (.iload_n 2, 1) := by decide +kernel
theorem dX3_arePair_18 : decode cX3_arePair 18 = .ok (.if_icmp .eq 7, 3) := by decide +kernel
theorem dX3_arePair_21 : decode cX3_arePair 21 = .ok (.iconst 1, 1) := by decide +kernel
theorem dX3_arePair_22 : decode cX3_arePair 22 = .ok (.goto 4, 3) := by decide +kernel
theorem dX3_arePair_25 : decode cX3_arePair 25 = .ok (.iconst 0, 1) := by decide +kernel
theorem dX3_arePair_26 : decode cX3_arePair 26 = .ok (.ireturn, 1) := by decide +kernel
theorem dX3_answerOf_0 : decode cX3_answerOf 0 = .ok (.iload_n 2, 1) := by decide +kernel
theorem dX3_answerOf_1 : decode cX3_answerOf 1 = .ok (.tableswitch 65 0 2 #[27, 36, 45], 27) := by decide +kernel
theorem dX3_answerOf_28 : decode cX3_answerOf 28 = .ok (.aload_n 0, 1) := by decide +kernel
theorem dX3_answerOf_29 : decode cX3_answerOf 29 = .ok (.getfield 10, 3) := by decide +kernel
theorem dX3_answerOf_32 : decode cX3_answerOf 32 = .ok (.iload_n 1, 1) := by decide +kernel
theorem dX3_answerOf_33 : decode cX3_answerOf 33 = .ok (.invokevirtual 204, 3) := by decide +kernel
theorem dX3_answerOf_36 : decode cX3_answerOf 36 = .ok (.ireturn, 1) := by decide +kernel
theorem dX3_answerOf_37 : decode cX3_answerOf 37 = .ok (.aload_n 0, 1) := by decide +kernel
theorem dX3_answerOf_38 : decode cX3_answerOf 38 = .ok (.getfield 10, 3) := by decide +kernel
theorem dX3_answerOf_41 : decode cX3_answerOf 41 = .ok (.iload_n 1, 1) := by decide +kernel
theorem dX3_answerOf_42 : decode cX3_answerOf 42 = .ok (.invokevirtual 207, 3) := by decide +kernel
theorem dX3_answerOf_45 : decode cX3_answerOf 45 = .ok (.ireturn, 1) := by decide +kernel
theorem dX3_answerOf_46 : decode cX3_answerOf 46 = .ok (.aload_n 0, 1) := by decide +kernel
theorem dX3_answerOf_47 : decode cX3_answerOf 47 = .ok (.getfield 16, 3) := by decide +kernel
theorem dX3_answerOf_50 : decode cX3_answerOf 50 = .ok (.aload_n 0, 1) := by decide +kernel
theorem dX3_answerOf_51 : decode cX3_answerOf 51 = .ok (.getfield 10, 3) := by decide +kernel
theorem dX3_answerOf_54 : decode cX3_answerOf 54 = .ok (.invokevirtual 74, 3) := by decide +kernel
theorem dX3_answerOf_57 : decode cX3_answerOf 57 = .ok (.aload_n 0, 1) := by decide +kernel
theorem dX3_answerOf_58 : decode cX3_answerOf 58 = .ok (.getfield 16, 3) := by decide +kernel
theorem dX3_answerOf_61 : decode cX3_answerOf 61 = .ok (.iload_n 1, 1) := by decide +kernel
theorem dX3_answerOf_62 : decode cX3_answerOf 62 = .ok (.invokevirtual 108, 3) := by decide +kernel
theorem dX3_answerOf_65 : decode cX3_answerOf 65 = .ok (.ireturn, 1) := by decide +kernel
theorem dX3_answerOf_66 : decode cX3_answerOf 66 = .ok (.bipush (-9), 2) := by decide +kernel
theorem dX3_answerOf_68 : decode cX3_answerOf 68 = .ok (.ireturn, 1) := by decide +kernel
theorem dX3_fitsAllSeen_0 : decode cX3_fitsAllSeen 0 = .ok (.iconst 0, 1) := by decide +kernel
theorem dX3_fitsAllSeen_1 : decode cX3_fitsAllSeen 1 = .ok (.istore_n 2, 1) := by decide +kernel
theorem dX3_fitsAllSeen_2 : decode cX3_fitsAllSeen 2 = .ok (.iload_n 2, 1) := by decide +kernel
theorem dX3_fitsAllSeen_3 : decode cX3_fitsAllSeen 3 = .ok (.aload_n 0, 1) := by decide +kernel
theorem dX3_fitsAllSeen_4 : decode cX3_fitsAllSeen 4 = .ok (.getfield 48, 3) := by decide +kernel
theorem dX3_fitsAllSeen_7 : decode cX3_fitsAllSeen 7 = .ok (.if_icmp .ge 31, 3) := by decide +kernel
theorem dX3_fitsAllSeen_10 : decode cX3_fitsAllSeen 10 = .ok (.aload_n 0, 1) := by decide +kernel
theorem dX3_fitsAllSeen_11 : decode cX3_fitsAllSeen 11 = .ok (.iload_n 1, 1) := by decide +kernel
theorem dX3_fitsAllSeen_12 : decode cX3_fitsAllSeen 12 = .ok (.aload_n 0, 1) := by decide +kernel
theorem dX3_fitsAllSeen_13 : decode cX3_fitsAllSeen 13 = .ok (.getfield 41, 3) := by decide +kernel
theorem dX3_fitsAllSeen_16 : decode cX3_fitsAllSeen 16 = .ok (.iload_n 2, 1) := by decide +kernel
theorem dX3_fitsAllSeen_17 : decode cX3_fitsAllSeen 17 = .ok (.iaload, 1) := by decide +kernel
theorem dX3_fitsAllSeen_18 : decode cX3_fitsAllSeen 18 = .ok (.invokevirtual 146, 3) := by decide +kernel
theorem dX3_fitsAllSeen_21 : decode cX3_fitsAllSeen 21 = .ok (.aload_n 0, 1) := by decide +kernel
theorem dX3_fitsAllSeen_22 : decode cX3_fitsAllSeen 22 = .ok (.getfield 45, 3) := by decide +kernel
theorem dX3_fitsAllSeen_25 : decode cX3_fitsAllSeen 25 = .ok (.iload_n 2, 1) := by decide +kernel
theorem dX3_fitsAllSeen_26 : decode cX3_fitsAllSeen 26 = .ok (.iaload, 1) := by decide +kernel
theorem dX3_fitsAllSeen_27 : decode cX3_fitsAllSeen 27 = .ok (.if_icmp .eq 5, 3) := by decide +kernel
theorem dX3_fitsAllSeen_30 : decode cX3_fitsAllSeen 30 = .ok (.iconst 0, 1) := by decide +kernel
theorem dX3_fitsAllSeen_31 : decode cX3_fitsAllSeen 31 = .ok (.ireturn, 1) := by decide +kernel
theorem dX3_fitsAllSeen_32 : decode cX3_fitsAllSeen 32 = .ok (.iinc 2 1, 3) := by decide +kernel
theorem dX3_fitsAllSeen_35 : decode cX3_fitsAllSeen 35 = .ok (.goto (-33), 3) := by decide +kernel
theorem dX3_fitsAllSeen_38 : decode cX3_fitsAllSeen 38 = .ok (.iconst 1, 1) := by decide +kernel
theorem dX3_fitsAllSeen_39 : decode cX3_fitsAllSeen 39 = .ok (.ireturn, 1) := by decide +kernel
theorem dX3_mostAlike_0 : decode cX3_mostAlike 0 = .ok (.iconst 0, 1) := by decide +kernel
theorem dX3_mostAlike_1 : decode cX3_mostAlike 1 = .ok (.istore_n 3, 1) := by decide +kernel
theorem dX3_mostAlike_2 : decode cX3_mostAlike 2 = .ok (.iload_n 3, 1) := by decide +kernel
theorem dX3_mostAlike_3 : decode cX3_mostAlike 3 = .ok (.aload_n 0, 1) := by decide +kernel
theorem dX3_mostAlike_4 : decode cX3_mostAlike 4 = .ok (.getfield 10, 3) := by decide +kernel
theorem dX3_mostAlike_7 : decode cX3_mostAlike 7 = .ok (.getfield 183, 3) := by decide +kernel
theorem dX3_mostAlike_10 : decode cX3_mostAlike 10 = .ok (.if_icmp .ge 21, 3) := by decide +kernel
theorem dX3_mostAlike_13 : decode cX3_mostAlike 13 = .ok (.aload_n 0, 1) := by decide +kernel
theorem dX3_mostAlike_14 : decode cX3_mostAlike 14 = .ok (.getfield 52, 3) := by decide +kernel
theorem dX3_mostAlike_17 : decode cX3_mostAlike 17 = .ok (.iload_n 3, 1) := by decide +kernel
theorem dX3_mostAlike_18 : decode cX3_mostAlike 18 = .ok (.aload_n 0, 1) := by decide +kernel
theorem dX3_mostAlike_19 : decode cX3_mostAlike 19 = .ok (.iload_n 3, 1) := by decide +kernel
theorem dX3_mostAlike_20 : decode cX3_mostAlike 20 = .ok (.iload_n 2, 1) := by decide +kernel
theorem dX3_mostAlike_21 : decode cX3_mostAlike 21 = .ok (.invokevirtual 146, 3) := by decide +kernel
theorem dX3_mostAlike_24 : decode cX3_mostAlike 24 = .ok (.iastore, 1) := by decide +kernel
theorem dX3_mostAlike_25 : decode cX3_mostAlike 25 = .ok (.iinc 3 1, 3) := by decide +kernel
theorem dX3_mostAlike_28 : decode cX3_mostAlike 28 = .ok (.goto (-26), 3) := by decide +kernel
theorem dX3_mostAlike_31 : decode cX3_mostAlike 31 = .ok (.iconst 0, 1) := by decide +kernel
theorem dX3_mostAlike_32 : decode cX3_mostAlike 32 = .ok (.istore_n 3, 1) := by decide +kernel
theorem dX3_mostAlike_33 : decode cX3_mostAlike 33 = .ok (.iconst 0, 1) := by decide +kernel
theorem dX3_mostAlike_34 : decode cX3_mostAlike 34 = .ok (.istore 4, 2) := by decide +kernel
theorem dX3_mostAlike_36 : decode cX3_mostAlike 36 = .ok (.iload 4, 2) := by decide +kernel
theorem dX3_mostAlike_38 : decode cX3_mostAlike 38 = .ok (.aload_n 0, 1) := by decide +kernel
theorem dX3_mostAlike_39 : decode cX3_mostAlike 39 = .ok (.getfield 10, 3) := by decide +kernel
theorem dX3_mostAlike_42 : decode cX3_mostAlike 42 = .ok (.getfield 183, 3) := by decide +kernel
theorem dX3_mostAlike_45 : decode cX3_mostAlike 45 = .ok (.if_icmp .ge 35, 3) := by decide +kernel
theorem dX3_mostAlike_48 : decode cX3_mostAlike 48 = .ok (.iload_n 1, 1) := by decide +kernel
theorem dX3_mostAlike_49 : decode cX3_mostAlike 49 = .ok (.iload 4, 2) := by decide +kernel
theorem dX3_mostAlike_51 : decode cX3_mostAlike 51 = .ok (.invokestatic 210, 3) := by decide +kernel
theorem dX3_mostAlike_54 : decode cX3_mostAlike 54 = .ok (.ifCond .eq 20, 3) := by decide +kernel
theorem dX3_mostAlike_57 : decode cX3_mostAlike 57 = .ok (.iload_n 3, 1) := by decide +kernel
theorem dX3_mostAlike_58 : decode cX3_mostAlike 58 = .ok (.aload_n 0, 1) := by decide +kernel
theorem dX3_mostAlike_59 : decode cX3_mostAlike 59 = .ok (.iload_n 1, 1) := by decide +kernel
theorem dX3_mostAlike_60 : decode cX3_mostAlike 60 = .ok (.aload_n 0, 1) := by decide +kernel
theorem dX3_mostAlike_61 : decode cX3_mostAlike 61 = .ok (.getfield 52, 3) := by decide +kernel
theorem dX3_mostAlike_64 : decode cX3_mostAlike 64 = .ok (.iload 4, 2) := by decide +kernel
theorem dX3_mostAlike_66 : decode cX3_mostAlike 66 = .ok (.iaload, 1) := by decide +kernel
theorem dX3_mostAlike_67 : decode cX3_mostAlike 67 = .ok (.invokevirtual 213, 3) := by decide +kernel
theorem dX3_mostAlike_70 : decode cX3_mostAlike 70 = .ok (.invokestatic 216, 3) := by decide +kernel
theorem dX3_mostAlike_73 : decode cX3_mostAlike 73 = .ok (.istore_n 3, 1) := by decide +kernel
theorem dX3_mostAlike_74 : decode cX3_mostAlike 74 = .ok (.iinc 4 1, 3) := by decide +kernel
theorem dX3_mostAlike_77 : decode cX3_mostAlike 77 = .ok (.goto (-41), 3) := by decide +kernel
theorem dX3_mostAlike_80 : decode cX3_mostAlike 80 = .ok (.iload_n 3, 1) := by decide +kernel
theorem dX3_mostAlike_81 : decode cX3_mostAlike 81 = .ok (.ireturn, 1) := by decide +kernel
theorem dX3_alikeWith_0 : decode cX3_alikeWith 0 = .ok (.iconst 0, 1) := by decide +kernel
theorem dX3_alikeWith_1 : decode cX3_alikeWith 1 = .ok (.istore_n 3, 1) := by decide +kernel
theorem dX3_alikeWith_2 : decode cX3_alikeWith 2 = .ok (.iconst 0, 1) := by decide +kernel
theorem dX3_alikeWith_3 : decode cX3_alikeWith 3 = .ok (.istore 4, 2) := by decide +kernel
theorem dX3_alikeWith_5 : decode cX3_alikeWith 5 = .ok (.iload 4, 2) := by decide +kernel
theorem dX3_alikeWith_7 : decode cX3_alikeWith 7 = .ok (.aload_n 0, 1) := by decide +kernel
theorem dX3_alikeWith_8 : decode cX3_alikeWith 8 = .ok (.getfield 10, 3) := by decide +kernel
theorem dX3_alikeWith_11 : decode cX3_alikeWith 11 = .ok (.getfield 183, 3) := by decide +kernel
theorem dX3_alikeWith_14 : decode cX3_alikeWith 14 = .ok (.if_icmp .ge 32, 3) := by decide +kernel
theorem dX3_alikeWith_17 : decode cX3_alikeWith 17 = .ok (.iload_n 1, 1) := by decide +kernel
theorem dX3_alikeWith_18 : decode cX3_alikeWith 18 = .ok (.iload 4, 2) := by decide +kernel
theorem dX3_alikeWith_20 : decode cX3_alikeWith 20 = .ok (.invokestatic 210, 3) := by decide +kernel
theorem dX3_alikeWith_23 : decode cX3_alikeWith 23 = .ok (.ifCond .eq 17, 3) := by decide +kernel
theorem dX3_alikeWith_26 : decode cX3_alikeWith 26 = .ok (.aload_n 0, 1) := by decide +kernel
theorem dX3_alikeWith_27 : decode cX3_alikeWith 27 = .ok (.getfield 52, 3) := by decide +kernel
theorem dX3_alikeWith_30 : decode cX3_alikeWith 30 = .ok (.iload 4, 2) := by decide +kernel
theorem dX3_alikeWith_32 : decode cX3_alikeWith 32 = .ok (.iaload, 1) := by decide +kernel
theorem dX3_alikeWith_33 : decode cX3_alikeWith 33 = .ok (.iload_n 2, 1) := by decide +kernel
theorem dX3_alikeWith_34 : decode cX3_alikeWith 34 = .ok (.if_icmp .ne 6, 3) := by decide +kernel
theorem dX3_alikeWith_37 : decode cX3_alikeWith 37 = .ok (.iinc 3 1, 3) := by decide +kernel
theorem dX3_alikeWith_40 : decode cX3_alikeWith 40 = .ok (.iinc 4 1, 3) := by decide +kernel
theorem dX3_alikeWith_43 : decode cX3_alikeWith 43 = .ok (.goto (-38), 3) := by decide +kernel
theorem dX3_alikeWith_46 : decode cX3_alikeWith 46 = .ok (.iload_n 3, 1) := by decide +kernel
theorem dX3_alikeWith_47 : decode cX3_alikeWith 47 = .ok (.ireturn, 1) := by decide +kernel
theorem dX3_hasBit_0 : decode cX3_hasBit 0 = .ok (.iload_n 0, 1) := by decide +kernel
theorem dX3_hasBit_1 : decode cX3_hasBit 1 = .ok (.iload_n 1, 1) := by decide +kernel
theorem dX3_hasBit_2 : decode cX3_hasBit 2 = .ok (.ishr, 1) := by decide +kernel
theorem dX3_hasBit_3 : decode cX3_hasBit 3 = .ok (.iconst 1, 1) := by decide +kernel
theorem dX3_hasBit_4 : decode cX3_hasBit 4 = .ok (.iand, 1) := by decide +kernel
theorem dX3_hasBit_5 : decode cX3_hasBit 5 = .ok (.iconst 1, 1) := by decide +kernel
theorem dX3_hasBit_6 : decode cX3_hasBit 6 = .ok (.if_icmp .ne 7, 3) := by decide +kernel
theorem dX3_hasBit_9 : decode cX3_hasBit 9 = .ok (.iconst 1, 1) := by decide +kernel
theorem dX3_hasBit_10 : decode cX3_hasBit 10 = .ok (.goto 4, 3) := by decide +kernel
theorem dX3_hasBit_13 : decode cX3_hasBit 13 = .ok (.iconst 0, 1) := by decide +kernel
theorem dX3_hasBit_14 : decode cX3_hasBit 14 = .ok (.ireturn, 1) := by decide +kernel
theorem dX3_slot_0 : decode cX3_slot 0 = .ok (.iload_n 0, 1) := by decide +kernel
theorem dX3_slot_1 : decode cX3_slot 1 = .ok (.iconst 4, 1) := by decide +kernel
theorem dX3_slot_2 : decode cX3_slot 2 = .ok (.imul, 1) := by decide +kernel
theorem dX3_slot_3 : decode cX3_slot 3 = .ok (.iload_n 1, 1) := by decide +kernel
theorem dX3_slot_4 : decode cX3_slot 4 = .ok (.iadd, 1) := by decide +kernel
theorem dX3_slot_5 : decode cX3_slot 5 = .ok (.ireturn, 1) := by decide +kernel
theorem dJ6_bitCount_0f7a4_0 : decode cJ6_bitCount_0f7a4 0 = .ok (.iload_n 0, 1) := by decide +kernel
theorem dJ6_bitCount_0f7a4_1 : decode cJ6_bitCount_0f7a4 1 = .ok (.iload_n 0, 1) := by decide +kernel
theorem dJ6_bitCount_0f7a4_2 : decode cJ6_bitCount_0f7a4 2 = .ok (.iconst 1, 1) := by decide +kernel
theorem dJ6_bitCount_0f7a4_3 : decode cJ6_bitCount_0f7a4 3 = .ok (.iushr, 1) := by decide +kernel
theorem dJ6_bitCount_0f7a4_4 : decode cJ6_bitCount_0f7a4 4 = .ok (.ldc_w 265, 3) := by decide +kernel
theorem dJ6_bitCount_0f7a4_7 : decode cJ6_bitCount_0f7a4 7 = .ok (.iand, 1) := by decide +kernel
theorem dJ6_bitCount_0f7a4_8 : decode cJ6_bitCount_0f7a4 8 = .ok (.isub, 1) := by decide +kernel
theorem dJ6_bitCount_0f7a4_9 : decode cJ6_bitCount_0f7a4 9 = .ok (.istore_n 0, 1) := by decide +kernel
theorem dJ6_bitCount_0f7a4_10 : decode cJ6_bitCount_0f7a4 10 = .ok (.iload_n 0, 1) := by decide +kernel
theorem dJ6_bitCount_0f7a4_11 : decode cJ6_bitCount_0f7a4 11 = .ok (.ldc_w 266, 3) := by decide +kernel
theorem dJ6_bitCount_0f7a4_14 : decode cJ6_bitCount_0f7a4 14 = .ok (.iand, 1) := by decide +kernel
theorem dJ6_bitCount_0f7a4_15 : decode cJ6_bitCount_0f7a4 15 = .ok (.iload_n 0, 1) := by decide +kernel
theorem dJ6_bitCount_0f7a4_16 : decode cJ6_bitCount_0f7a4 16 = .ok (.iconst 2, 1) := by decide +kernel
theorem dJ6_bitCount_0f7a4_17 : decode cJ6_bitCount_0f7a4 17 = .ok (.iushr, 1) := by decide +kernel
theorem dJ6_bitCount_0f7a4_18 : decode cJ6_bitCount_0f7a4 18 = .ok (.ldc_w 266, 3) := by decide +kernel
theorem dJ6_bitCount_0f7a4_21 : decode cJ6_bitCount_0f7a4 21 = .ok (.iand, 1) := by decide +kernel
theorem dJ6_bitCount_0f7a4_22 : decode cJ6_bitCount_0f7a4 22 = .ok (.iadd, 1) := by decide +kernel
theorem dJ6_bitCount_0f7a4_23 : decode cJ6_bitCount_0f7a4 23 = .ok (.istore_n 0, 1) := by decide +kernel
theorem dJ6_bitCount_0f7a4_24 : decode cJ6_bitCount_0f7a4 24 = .ok (.iload_n 0, 1) := by decide +kernel
theorem dJ6_bitCount_0f7a4_25 : decode cJ6_bitCount_0f7a4 25 = .ok (.iload_n 0, 1) := by decide +kernel
theorem dJ6_bitCount_0f7a4_26 : decode cJ6_bitCount_0f7a4 26 = .ok (.iconst 4, 1) := by decide +kernel
theorem dJ6_bitCount_0f7a4_27 : decode cJ6_bitCount_0f7a4 27 = .ok (.iushr, 1) := by decide +kernel
theorem dJ6_bitCount_0f7a4_28 : decode cJ6_bitCount_0f7a4 28 = .ok (.iadd, 1) := by decide +kernel
theorem dJ6_bitCount_0f7a4_29 : decode cJ6_bitCount_0f7a4 29 = .ok (.ldc_w 267, 3) := by decide +kernel
theorem dJ6_bitCount_0f7a4_32 : decode cJ6_bitCount_0f7a4 32 = .ok (.iand, 1) := by decide +kernel
theorem dJ6_bitCount_0f7a4_33 : decode cJ6_bitCount_0f7a4 33 = .ok (.istore_n 0, 1) := by decide +kernel
theorem dJ6_bitCount_0f7a4_34 : decode cJ6_bitCount_0f7a4 34 = .ok (.iload_n 0, 1) := by decide +kernel
theorem dJ6_bitCount_0f7a4_35 : decode cJ6_bitCount_0f7a4 35 = .ok (.iload_n 0, 1) := by decide +kernel
theorem dJ6_bitCount_0f7a4_36 : decode cJ6_bitCount_0f7a4 36 = .ok (.bipush 8, 2) := by decide +kernel
theorem dJ6_bitCount_0f7a4_38 : decode cJ6_bitCount_0f7a4 38 = .ok (.iushr, 1) := by decide +kernel
theorem dJ6_bitCount_0f7a4_39 : decode cJ6_bitCount_0f7a4 39 = .ok (.iadd, 1) := by decide +kernel
theorem dJ6_bitCount_0f7a4_40 : decode cJ6_bitCount_0f7a4 40 = .ok (.istore_n 0, 1) := by decide +kernel
theorem dJ6_bitCount_0f7a4_41 : decode cJ6_bitCount_0f7a4 41 = .ok (.iload_n 0, 1) := by decide +kernel
theorem dJ6_bitCount_0f7a4_42 : decode cJ6_bitCount_0f7a4 42 = .ok (.iload_n 0, 1) := by decide +kernel
theorem dJ6_bitCount_0f7a4_43 : decode cJ6_bitCount_0f7a4 43 = .ok (.bipush 16, 2) := by decide +kernel
theorem dJ6_bitCount_0f7a4_45 : decode cJ6_bitCount_0f7a4 45 = .ok (.iushr, 1) := by decide +kernel
theorem dJ6_bitCount_0f7a4_46 : decode cJ6_bitCount_0f7a4 46 = .ok (.iadd, 1) := by decide +kernel
theorem dJ6_bitCount_0f7a4_47 : decode cJ6_bitCount_0f7a4 47 = .ok (.istore_n 0, 1) := by decide +kernel
theorem dJ6_bitCount_0f7a4_48 : decode cJ6_bitCount_0f7a4 48 = .ok (.iload_n 0, 1) := by decide +kernel
theorem dJ6_bitCount_0f7a4_49 : decode cJ6_bitCount_0f7a4 49 = .ok (.bipush 63, 2) := by decide +kernel
theorem dJ6_bitCount_0f7a4_51 : decode cJ6_bitCount_0f7a4 51 = .ok (.iand, 1) := by decide +kernel
theorem dJ6_bitCount_0f7a4_52 : decode cJ6_bitCount_0f7a4 52 = .ok (.ireturn, 1) := by decide +kernel
theorem dJ9_max_7cf53_0 : decode cJ9_max_7cf53 0 = .ok (.iload_n 0, 1) := by decide +kernel
theorem dJ9_max_7cf53_1 : decode cJ9_max_7cf53 1 = .ok (.iload_n 1, 1) := by decide +kernel
theorem dJ9_max_7cf53_2 : decode cJ9_max_7cf53 2 = .ok (.if_icmp .lt 7, 3) := by decide +kernel
theorem dJ9_max_7cf53_5 : decode cJ9_max_7cf53 5 = .ok (.iload_n 0, 1) := by decide +kernel
theorem dJ9_max_7cf53_6 : decode cJ9_max_7cf53 6 = .ok (.goto 4, 3) := by decide +kernel
theorem dJ9_max_7cf53_9 : decode cJ9_max_7cf53 9 = .ok (.iload_n 1, 1) := by decide +kernel
theorem dJ9_max_7cf53_10 : decode cJ9_max_7cf53 10 = .ok (.ireturn, 1) := by decide +kernel
theorem dJ9_min_7cf53_0 : decode cJ9_min_7cf53 0 = .ok (.iload_n 0, 1) := by decide +kernel
theorem dJ9_min_7cf53_1 : decode cJ9_min_7cf53 1 = .ok (.iload_n 1, 1) := by decide +kernel
theorem dJ9_min_7cf53_2 : decode cJ9_min_7cf53 2 = .ok (.if_icmp .gt 7, 3) := by decide +kernel
theorem dJ9_min_7cf53_5 : decode cJ9_min_7cf53 5 = .ok (.iload_n 0, 1) := by decide +kernel
theorem dJ9_min_7cf53_6 : decode cJ9_min_7cf53 6 = .ok (.goto 4, 3) := by decide +kernel
theorem dJ9_min_7cf53_9 : decode cJ9_min_7cf53 9 = .ok (.iload_n 1, 1) := by decide +kernel
theorem dJ9_min_7cf53_10 : decode cJ9_min_7cf53 10 = .ok (.ireturn, 1) := by decide +kernel
theorem dJ0_length_8abf5_0 : decode cJ0_length_8abf5 0 = .ok (.aload_n 0, 1) := by decide +kernel
theorem dJ0_length_8abf5_1 : decode cJ0_length_8abf5 1 = .ok (.getfield 9, 3) := by decide +kernel
theorem dJ0_length_8abf5_4 : decode cJ0_length_8abf5 4 = .ok (.arraylength, 1) := by decide +kernel
theorem dJ0_length_8abf5_5 : decode cJ0_length_8abf5 5 = .ok (.aload_n 0, 1) := by decide +kernel
theorem dJ0_length_8abf5_6 : decode cJ0_length_8abf5 6 = .ok (.invokevirtual 335, 3) := by decide +kernel
theorem dJ0_length_8abf5_9 : decode cJ0_length_8abf5 9 = .ok (.ishr, 1) := by decide +kernel
theorem dJ0_length_8abf5_10 : decode cJ0_length_8abf5 10 = .ok (.ireturn, 1) := by decide +kernel
theorem dJ0_charAt_5068e_0 : decode cJ0_charAt_5068e 0 = .ok (.aload_n 0, 1) := by decide +kernel
theorem dJ0_charAt_5068e_1 : decode cJ0_charAt_5068e 1 = .ok (.invokevirtual 492, 3) := by decide +kernel
theorem dJ0_charAt_5068e_4 : decode cJ0_charAt_5068e 4 = .ok (.ifCond .eq 12, 3) := by decide +kernel
theorem dJ0_charAt_5068e_7 : decode cJ0_charAt_5068e 7 = .ok (.aload_n 0, 1) := by decide +kernel
theorem dJ0_charAt_5068e_8 : decode cJ0_charAt_5068e 8 = .ok (.getfield 9, 3) := by decide +kernel
theorem dJ0_charAt_5068e_11 : decode cJ0_charAt_5068e 11 = .ok (.iload_n 1, 1) := by decide +kernel
theorem dJ0_charAt_5068e_12 : decode cJ0_charAt_5068e 12 = .ok (.invokestatic 495, 3) := by decide +kernel
theorem dJ0_charAt_5068e_15 : decode cJ0_charAt_5068e 15 = .ok (.ireturn, 1) := by decide +kernel
theorem dJ0_charAt_5068e_16 : decode cJ0_charAt_5068e 16 = .ok (.aload_n 0, 1) := by decide +kernel
theorem dJ0_charAt_5068e_17 : decode cJ0_charAt_5068e 17 = .ok (.getfield 9, 3) := by decide +kernel
theorem dJ0_charAt_5068e_20 : decode cJ0_charAt_5068e 20 = .ok (.iload_n 1, 1) := by decide +kernel
theorem dJ0_charAt_5068e_21 : decode cJ0_charAt_5068e 21 = .ok (.invokestatic 498, 3) := by decide +kernel
theorem dJ0_charAt_5068e_24 : decode cJ0_charAt_5068e 24 = .ok (.ireturn, 1) := by decide +kernel
theorem dJ0_coder_7d493_0 : decode cJ0_coder_7d493 0 = .ok (.getstatic 38, 3) := by decide +kernel
theorem dJ0_coder_7d493_3 : decode cJ0_coder_7d493 3 = .ok (.ifCond .eq 10, 3) := by decide +kernel
theorem dJ0_coder_7d493_6 : decode cJ0_coder_7d493 6 = .ok (.aload_n 0, 1) := by decide +kernel
theorem dJ0_coder_7d493_7 : decode cJ0_coder_7d493 7 = .ok (.getfield 15, 3) := by decide +kernel
theorem dJ0_coder_7d493_10 : decode cJ0_coder_7d493 10 = .ok (.goto 4, 3) := by decide +kernel
theorem dJ0_coder_7d493_13 : decode cJ0_coder_7d493 13 = .ok (.iconst 1, 1) := by decide +kernel
theorem dJ0_coder_7d493_14 : decode cJ0_coder_7d493 14 = .ok (.ireturn, 1) := by decide +kernel
theorem dJ0_isLatin1_aae02_0 : decode cJ0_isLatin1_aae02 0 = .ok (.getstatic 38, 3) := by decide +kernel
theorem dJ0_isLatin1_aae02_3 : decode cJ0_isLatin1_aae02 3 = .ok (.ifCond .eq 14, 3) := by decide +kernel
theorem dJ0_isLatin1_aae02_6 : decode cJ0_isLatin1_aae02 6 = .ok (.aload_n 0, 1) := by decide +kernel
theorem dJ0_isLatin1_aae02_7 : decode cJ0_isLatin1_aae02 7 = .ok (.getfield 15, 3) := by decide +kernel
theorem dJ0_isLatin1_aae02_10 : decode cJ0_isLatin1_aae02 10 = .ok (.ifCond .ne 7, 3) := by decide +kernel
theorem dJ0_isLatin1_aae02_13 : decode cJ0_isLatin1_aae02 13 = .ok (.iconst 1, 1) := by decide +kernel
theorem dJ0_isLatin1_aae02_14 : decode cJ0_isLatin1_aae02 14 = .ok (.goto 4, 3) := by decide +kernel
theorem dJ0_isLatin1_aae02_17 : decode cJ0_isLatin1_aae02 17 = .ok (.iconst 0, 1) := by decide +kernel
theorem dJ0_isLatin1_aae02_18 : decode cJ0_isLatin1_aae02 18 = .ok (.ireturn, 1) := by decide +kernel
theorem dJ0_checkIndex_df160_0 : decode cJ0_checkIndex_df160 0 = .ok (.iload_n 0, 1) := by decide +kernel
theorem dJ0_checkIndex_df160_1 : decode cJ0_checkIndex_df160 1 = .ok (.iload_n 1, 1) := by decide +kernel
theorem dJ0_checkIndex_df160_2 : decode cJ0_checkIndex_df160 2 = .ok (.getstatic 1053, 3) := by decide +kernel
theorem dJ0_checkIndex_df160_5 : decode cJ0_checkIndex_df160 5 = .ok (.invokestatic 1059, 3) := by decide +kernel
theorem dJ0_checkIndex_df160_8 : decode cJ0_checkIndex_df160 8 = .ok (.pop, 1) := by decide +kernel
theorem dJ0_checkIndex_df160_9 : decode cJ0_checkIndex_df160 9 = .ok (.return_, 1) := by decide +kernel
theorem dJ1_charAt_3b067_0 : decode cJ1_charAt_3b067 0 = .ok (.iload_n 1, 1) := by decide +kernel
theorem dJ1_charAt_3b067_1 : decode cJ1_charAt_3b067 1 = .ok (.aload_n 0, 1) := by decide +kernel
theorem dJ1_charAt_3b067_2 : decode cJ1_charAt_3b067 2 = .ok (.arraylength, 1) := by decide +kernel
theorem dJ1_charAt_3b067_3 : decode cJ1_charAt_3b067 3 = .ok (.invokestatic 9, 3) := by decide +kernel
theorem dJ1_charAt_3b067_6 : decode cJ1_charAt_3b067 6 = .ok (.aload_n 0, 1) := by decide +kernel
theorem dJ1_charAt_3b067_7 : decode cJ1_charAt_3b067 7 = .ok (.iload_n 1, 1) := by decide +kernel
theorem dJ1_charAt_3b067_8 : decode cJ1_charAt_3b067 8 = .ok (.baload, 1) := by decide +kernel
theorem dJ1_charAt_3b067_9 : decode cJ1_charAt_3b067 9 = .ok (.sipush 255, 3) := by decide +kernel
theorem dJ1_charAt_3b067_12 : decode cJ1_charAt_3b067 12 = .ok (.iand, 1) := by decide +kernel
theorem dJ1_charAt_3b067_13 : decode cJ1_charAt_3b067 13 = .ok (.i2c, 1) := by decide +kernel
theorem dJ1_charAt_3b067_14 : decode cJ1_charAt_3b067 14 = .ok (.ireturn, 1) := by decide +kernel
theorem dJ2_getChar_3b067_0 : decode cJ2_getChar_3b067 0 = .ok (.getstatic 44, 3) := by decide +kernel
theorem dJ2_getChar_3b067_3 : decode cJ2_getChar_3b067 3 = .ok (.ifCond .ne 25, 3) := by decide +kernel
theorem dJ2_getChar_3b067_6 : decode cJ2_getChar_3b067 6 = .ok (.iload_n 1, 1) := by decide +kernel
theorem dJ2_getChar_3b067_7 : decode cJ2_getChar_3b067 7 = .ok (.ifCond .lt 11, 3) := by decide +kernel
theorem dJ2_getChar_3b067_10 : decode cJ2_getChar_3b067 10 = .ok (.iload_n 1, 1) := by decide +kernel
theorem dJ2_getChar_3b067_11 : decode cJ2_getChar_3b067 11 = .ok (.aload_n 0, 1) := by decide +kernel
theorem dJ2_getChar_3b067_12 : decode cJ2_getChar_3b067 12 = .ok (.invokestatic 48, 3) := by decide +kernel
theorem dJ2_getChar_3b067_15 : decode cJ2_getChar_3b067 15 = .ok (.if_icmp .lt 13, 3) := by decide +kernel
theorem dJ2_getChar_3b067_18 : decode cJ2_getChar_3b067 18 = .ok (.new 52, 3) := by decide +kernel
theorem dJ2_getChar_3b067_21 : decode cJ2_getChar_3b067 21 = .ok (.dup, 1) := by decide +kernel
theorem dJ2_getChar_3b067_22 : decode cJ2_getChar_3b067 22 = .ok (.ldc 54, 2) := by decide +kernel
theorem dJ2_getChar_3b067_24 : decode cJ2_getChar_3b067 24 = .ok (.invokespecial 56, 3) := by decide +kernel
theorem dJ2_getChar_3b067_27 : decode cJ2_getChar_3b067 27 = .ok (.athrow, 1) := by decide +kernel
theorem dJ2_getChar_3b067_28 : decode cJ2_getChar_3b067 28 = .ok (.iload_n 1, 1) := by decide +kernel
theorem dJ2_getChar_3b067_29 : decode cJ2_getChar_3b067 29 = .ok (.iconst 1, 1) := by decide +kernel
theorem dJ2_getChar_3b067_30 : decode cJ2_getChar_3b067 30 = .ok (.ishl, 1) := by decide +kernel
theorem dJ2_getChar_3b067_31 : decode cJ2_getChar_3b067 31 = .ok (.istore_n 1, 1) := by decide +kernel
theorem dJ2_getChar_3b067_32 : decode cJ2_getChar_3b067 32 = .ok (.aload_n 0, 1) := by decide +kernel
theorem dJ2_getChar_3b067_33 : decode cJ2_getChar_3b067 33 = .ok (.iload_n 1, 1) := by decide +kernel
theorem dJ2_getChar_3b067_34 : decode cJ2_getChar_3b067 34 = .ok (.iinc 1 1, 3) := by decide +kernel
theorem dJ2_getChar_3b067_37 : decode cJ2_getChar_3b067 37 = .ok (.baload, 1) := by decide +kernel
theorem dJ2_getChar_3b067_38 : decode cJ2_getChar_3b067 38 = .ok (.sipush 255, 3) := by decide +kernel
theorem dJ2_getChar_3b067_41 : decode cJ2_getChar_3b067 41 = .ok (.iand, 1) := by decide +kernel
theorem dJ2_getChar_3b067_42 : decode cJ2_getChar_3b067 42 = .ok (.getstatic 59, 3) := by decide +kernel
theorem dJ2_getChar_3b067_45 : decode cJ2_getChar_3b067 45 = .ok (.ishl, 1) := by decide +kernel
theorem dJ2_getChar_3b067_46 : decode cJ2_getChar_3b067 46 = .ok (.aload_n 0, 1) := by decide +kernel
theorem dJ2_getChar_3b067_47 : decode cJ2_getChar_3b067 47 = .ok (.iload_n 1, 1) := by decide +kernel
theorem dJ2_getChar_3b067_48 : decode cJ2_getChar_3b067 48 = .ok (.baload, 1) := by decide +kernel
theorem dJ2_getChar_3b067_49 : decode cJ2_getChar_3b067 49 = .ok (.sipush 255, 3) := by decide +kernel
theorem dJ2_getChar_3b067_52 : decode cJ2_getChar_3b067 52 = .ok (.iand, 1) := by decide +kernel
theorem dJ2_getChar_3b067_53 : decode cJ2_getChar_3b067 53 = .ok (.getstatic 63, 3) := by decide +kernel
theorem dJ2_getChar_3b067_56 : decode cJ2_getChar_3b067 56 = .ok (.ishl, 1) := by decide +kernel
theorem dJ2_getChar_3b067_57 : decode cJ2_getChar_3b067 57 = .ok (.ior, 1) := by decide +kernel
theorem dJ2_getChar_3b067_58 : decode cJ2_getChar_3b067 58 = .ok (.i2c, 1) := by decide +kernel
theorem dJ2_getChar_3b067_59 : decode cJ2_getChar_3b067 59 = .ok (.ireturn, 1) := by decide +kernel
theorem dJ2_length_9d52b_0 : decode cJ2_length_9d52b 0 = .ok (.aload_n 0, 1) := by decide +kernel
theorem dJ2_length_9d52b_1 : decode cJ2_length_9d52b 1 = .ok (.arraylength, 1) := by decide +kernel
theorem dJ2_length_9d52b_2 : decode cJ2_length_9d52b 2 = .ok (.iconst 1, 1) := by decide +kernel
theorem dJ2_length_9d52b_3 : decode cJ2_length_9d52b 3 = .ok (.ishr, 1) := by decide +kernel
theorem dJ2_length_9d52b_4 : decode cJ2_length_9d52b 4 = .ok (.ireturn, 1) := by decide +kernel
theorem dJ2_charAt_3b067_0 : decode cJ2_charAt_3b067 0 = .ok (.iload_n 1, 1) := by decide +kernel
theorem dJ2_charAt_3b067_1 : decode cJ2_charAt_3b067 1 = .ok (.aload_n 0, 1) := by decide +kernel
theorem dJ2_charAt_3b067_2 : decode cJ2_charAt_3b067 2 = .ok (.invokestatic 67, 3) := by decide +kernel
theorem dJ2_charAt_3b067_5 : decode cJ2_charAt_3b067 5 = .ok (.aload_n 0, 1) := by decide +kernel
theorem dJ2_charAt_3b067_6 : decode cJ2_charAt_3b067 6 = .ok (.iload_n 1, 1) := by decide +kernel
theorem dJ2_charAt_3b067_7 : decode cJ2_charAt_3b067 7 = .ok (.invokestatic 71, 3) := by decide +kernel
theorem dJ2_charAt_3b067_10 : decode cJ2_charAt_3b067 10 = .ok (.ireturn, 1) := by decide +kernel
theorem dJ2_checkIndex_2214a_0 : decode cJ2_checkIndex_2214a 0 = .ok (.iload_n 0, 1) := by decide +kernel
theorem dJ2_checkIndex_2214a_1 : decode cJ2_checkIndex_2214a 1 = .ok (.aload_n 1, 1) := by decide +kernel
theorem dJ2_checkIndex_2214a_2 : decode cJ2_checkIndex_2214a 2 = .ok (.invokestatic 48, 3) := by decide +kernel
theorem dJ2_checkIndex_2214a_5 : decode cJ2_checkIndex_2214a 5 = .ok (.invokestatic 414, 3) := by decide +kernel
theorem dJ2_checkIndex_2214a_8 : decode cJ2_checkIndex_2214a 8 = .ok (.return_, 1) := by decide +kernel
theorem dJ7_fill_53178_0 : decode cJ7_fill_53178 0 = .ok (.iconst 0, 1) := by decide +kernel
theorem dJ7_fill_53178_1 : decode cJ7_fill_53178 1 = .ok (.istore_n 2, 1) := by decide +kernel
theorem dJ7_fill_53178_2 : decode cJ7_fill_53178 2 = .ok (.aload_n 0, 1) := by decide +kernel
theorem dJ7_fill_53178_3 : decode cJ7_fill_53178 3 = .ok (.arraylength, 1) := by decide +kernel
theorem dJ7_fill_53178_4 : decode cJ7_fill_53178 4 = .ok (.istore_n 3, 1) := by decide +kernel
theorem dJ7_fill_53178_5 : decode cJ7_fill_53178 5 = .ok (.iload_n 2, 1) := by decide +kernel
theorem dJ7_fill_53178_6 : decode cJ7_fill_53178 6 = .ok (.iload_n 3, 1) := by decide +kernel
theorem dJ7_fill_53178_7 : decode cJ7_fill_53178 7 = .ok (.if_icmp .ge 13, 3) := by decide +kernel
theorem dJ7_fill_53178_10 : decode cJ7_fill_53178 10 = .ok (.aload_n 0, 1) := by decide +kernel
theorem dJ7_fill_53178_11 : decode cJ7_fill_53178 11 = .ok (.iload_n 2, 1) := by decide +kernel
theorem dJ7_fill_53178_12 : decode cJ7_fill_53178 12 = .ok (.iload_n 1, 1) := by decide +kernel
theorem dJ7_fill_53178_13 : decode cJ7_fill_53178 13 = .ok (.iastore, 1) := by decide +kernel
theorem dJ7_fill_53178_14 : decode cJ7_fill_53178 14 = .ok (.iinc 2 1, 3) := by decide +kernel
theorem dJ7_fill_53178_17 : decode cJ7_fill_53178 17 = .ok (.goto (-12), 3) := by decide +kernel
theorem dJ7_fill_53178_20 : decode cJ7_fill_53178 20 = .ok (.return_, 1) := by decide +kernel
theorem dJ3_checkIndex_8e157_0 : decode cJ3_checkIndex_8e157 0 = .ok (.iload_n 0, 1) := by decide +kernel
theorem dJ3_checkIndex_8e157_1 : decode cJ3_checkIndex_8e157 1 = .ok (.ifCond .lt 8, 3) := by decide +kernel
theorem dJ3_checkIndex_8e157_4 : decode cJ3_checkIndex_8e157 4 = .ok (.iload_n 0, 1) := by decide +kernel
theorem dJ3_checkIndex_8e157_5 : decode cJ3_checkIndex_8e157 5 = .ok (.iload_n 1, 1) := by decide +kernel
theorem dJ3_checkIndex_8e157_6 : decode cJ3_checkIndex_8e157 6 = .ok (.if_icmp .lt 10, 3) := by decide +kernel
theorem dJ3_checkIndex_8e157_9 : decode cJ3_checkIndex_8e157 9 = .ok (.aload_n 2, 1) := by decide +kernel
theorem dJ3_checkIndex_8e157_10 : decode cJ3_checkIndex_8e157 10 = .ok (.iload_n 0, 1) := by decide +kernel
theorem dJ3_checkIndex_8e157_11 : decode cJ3_checkIndex_8e157 11 = .ok (.iload_n 1, 1) := by decide +kernel
theorem dJ3_checkIndex_8e157_12 : decode cJ3_checkIndex_8e157 12 = .ok (.invokestatic 95, 3) := by decide +kernel
theorem dJ3_checkIndex_8e157_15 : decode cJ3_checkIndex_8e157 15 = .ok (.athrow, 1) := by decide +kernel
theorem dJ3_checkIndex_8e157_16 : decode cJ3_checkIndex_8e157 16 = .ok (.iload_n 0, 1) := by decide +kernel
theorem dJ3_checkIndex_8e157_17 : decode cJ3_checkIndex_8e157 17 = .ok (.ireturn, 1) := by decide +kernel
theorem dL_law_0 : decode cL_law 0 = .ok (.new 7, 3) := by decide +kernel
theorem dL_law_3 : decode cL_law 3 = .ok (.dup, 1) := by decide +kernel
theorem dL_law_4 : decode cL_law 4 = .ok (.invokespecial 9, 3) := by decide +kernel
theorem dL_law_7 : decode cL_law 7 = .ok (.astore_n 1, 1) := by decide +kernel
theorem dL_law_8 : decode cL_law 8 = .ok (.new 10, 3) := by decide +kernel
theorem dL_law_11 : decode cL_law 11 = .ok (.dup, 1) := by decide +kernel
theorem dL_law_12 : decode cL_law 12 = .ok (.invokespecial 12, 3) := by decide +kernel
theorem dL_law_15 : decode cL_law 15 = .ok (.astore_n 2, 1) := by decide +kernel
theorem dL_law_16 : decode cL_law 16 = .ok (.iconst 0, 1) := by decide +kernel
theorem dL_law_17 : decode cL_law 17 = .ok (.istore_n 3, 1) := by decide +kernel
theorem dL_law_18 : decode cL_law 18 = .ok (.iload_n 3, 1) := by decide +kernel
theorem dL_law_19 : decode cL_law 19 = .ok (.aload_n 0, 1) := by decide +kernel
theorem dL_law_20 : decode cL_law 20 = .ok (.arraylength, 1) := by decide +kernel
theorem dL_law_21 : decode cL_law 21 = .ok (.iconst 5, 1) := by decide +kernel
theorem dL_law_22 : decode cL_law 22 = .ok (.isub, 1) := by decide +kernel
theorem dL_law_23 : decode cL_law 23 = .ok (.if_icmp .gt 705, 3) := by decide +kernel
theorem dL_law_26 : decode cL_law 26 = .ok (.aload_n 0, 1) := by decide +kernel
theorem dL_law_27 : decode cL_law 27 = .ok (.iload_n 3, 1) := by decide +kernel
theorem dL_law_28 : decode cL_law 28 = .ok (.iaload, 1) := by decide +kernel
theorem dL_law_29 : decode cL_law 29 = .ok (.bipush 31, 2) := by decide +kernel
theorem dL_law_31 : decode cL_law 31 = .ok (.iand, 1) := by decide +kernel
theorem dL_law_32 : decode cL_law 32 = .ok (.tableswitch 690 0 21 #[104, 127, 140, 153, 186, 209, 242, 265, 318, 341, 394, 407, 440, 483, 516, 549, 582, 595, 608, 621, 644, 667], 104) := by decide +kernel
theorem dL_law_136 : decode cL_law 136 = .ok (.aload_n 1, 1) := by decide +kernel
theorem dL_law_137 : decode cL_law 137 = .ok (.aload_n 0, 1) := by decide +kernel
theorem dL_law_138 : decode cL_law 138 = .ok (.iload_n 3, 1) := by decide +kernel
theorem dL_law_139 : decode cL_law 139 = .ok (.iconst 1, 1) := by decide +kernel
theorem dL_law_140 : decode cL_law 140 = .ok (.iadd, 1) := by decide +kernel
theorem dL_law_141 : decode cL_law 141 = .ok (.iaload, 1) := by decide +kernel
theorem dL_law_142 : decode cL_law 142 = .ok (.invokevirtual 13, 3) := by decide +kernel
theorem dL_law_145 : decode cL_law 145 = .ok (.aload_n 2, 1) := by decide +kernel
theorem dL_law_146 : decode cL_law 146 = .ok (.aload_n 0, 1) := by decide +kernel
theorem dL_law_147 : decode cL_law 147 = .ok (.iload_n 3, 1) := by decide +kernel
theorem dL_law_148 : decode cL_law 148 = .ok (.iconst 1, 1) := by decide +kernel
theorem dL_law_149 : decode cL_law 149 = .ok (.iadd, 1) := by decide +kernel
theorem dL_law_150 : decode cL_law 150 = .ok (.iaload, 1) := by decide +kernel
theorem dL_law_151 : decode cL_law 151 = .ok (.invokevirtual 17, 3) := by decide +kernel
theorem dL_law_154 : decode cL_law 154 = .ok (.if_icmp .eq 568, 3) := by decide +kernel
theorem dL_law_157 : decode cL_law 157 = .ok (.iconst 0, 1) := by decide +kernel
theorem dL_law_158 : decode cL_law 158 = .ok (.ireturn, 1) := by decide +kernel
theorem dL_law_159 : decode cL_law 159 = .ok (.aload_n 1, 1) := by decide +kernel
theorem dL_law_160 : decode cL_law 160 = .ok (.invokevirtual 18, 3) := by decide +kernel
theorem dL_law_163 : decode cL_law 163 = .ok (.aload_n 2, 1) := by decide +kernel
theorem dL_law_164 : decode cL_law 164 = .ok (.invokevirtual 22, 3) := by decide +kernel
theorem dL_law_167 : decode cL_law 167 = .ok (.if_icmp .eq 555, 3) := by decide +kernel
theorem dL_law_170 : decode cL_law 170 = .ok (.iconst 0, 1) := by decide +kernel
theorem dL_law_171 : decode cL_law 171 = .ok (.ireturn, 1) := by decide +kernel
theorem dL_law_172 : decode cL_law 172 = .ok (.aload_n 1, 1) := by decide +kernel
theorem dL_law_173 : decode cL_law 173 = .ok (.invokevirtual 23, 3) := by decide +kernel
theorem dL_law_176 : decode cL_law 176 = .ok (.aload_n 2, 1) := by decide +kernel
theorem dL_law_177 : decode cL_law 177 = .ok (.invokevirtual 26, 3) := by decide +kernel
theorem dL_law_180 : decode cL_law 180 = .ok (.if_icmp .eq 542, 3) := by decide +kernel
theorem dL_law_183 : decode cL_law 183 = .ok (.iconst 0, 1) := by decide +kernel
theorem dL_law_184 : decode cL_law 184 = .ok (.ireturn, 1) := by decide +kernel
theorem dL_law_185 : decode cL_law 185 = .ok (.aload_n 1, 1) := by decide +kernel
theorem dL_law_186 : decode cL_law 186 = .ok (.aload_n 0, 1) := by decide +kernel
theorem dL_law_187 : decode cL_law 187 = .ok (.iload_n 3, 1) := by decide +kernel
theorem dL_law_188 : decode cL_law 188 = .ok (.iconst 1, 1) := by decide +kernel
theorem dL_law_189 : decode cL_law 189 = .ok (.iadd, 1) := by decide +kernel
theorem dL_law_190 : decode cL_law 190 = .ok (.iaload, 1) := by decide +kernel
theorem dL_law_191 : decode cL_law 191 = .ok (.aload_n 0, 1) := by decide +kernel
theorem dL_law_192 : decode cL_law 192 = .ok (.iload_n 3, 1) := by decide +kernel
theorem dL_law_193 : decode cL_law 193 = .ok (.iconst 2, 1) := by decide +kernel
theorem dL_law_194 : decode cL_law 194 = .ok (.iadd, 1) := by decide +kernel
theorem dL_law_195 : decode cL_law 195 = .ok (.iaload, 1) := by decide +kernel
theorem dL_law_196 : decode cL_law 196 = .ok (.invokevirtual 27, 3) := by decide +kernel
theorem dL_law_199 : decode cL_law 199 = .ok (.aload_n 2, 1) := by decide +kernel
theorem dL_law_200 : decode cL_law 200 = .ok (.aload_n 0, 1) := by decide +kernel
theorem dL_law_201 : decode cL_law 201 = .ok (.iload_n 3, 1) := by decide +kernel
theorem dL_law_202 : decode cL_law 202 = .ok (.iconst 1, 1) := by decide +kernel
theorem dL_law_203 : decode cL_law 203 = .ok (.iadd, 1) := by decide +kernel
theorem dL_law_204 : decode cL_law 204 = .ok (.iaload, 1) := by decide +kernel
theorem dL_law_205 : decode cL_law 205 = .ok (.aload_n 0, 1) := by decide +kernel
theorem dL_law_206 : decode cL_law 206 = .ok (.iload_n 3, 1) := by decide +kernel
theorem dL_law_207 : decode cL_law 207 = .ok (.iconst 2, 1) := by decide +kernel
theorem dL_law_208 : decode cL_law 208 = .ok (.iadd, 1) := by decide +kernel
theorem dL_law_209 : decode cL_law 209 = .ok (.iaload, 1) := by decide +kernel
theorem dL_law_210 : decode cL_law 210 = .ok (.invokevirtual 31, 3) := by decide +kernel
theorem dL_law_213 : decode cL_law 213 = .ok (.if_icmp .eq 509, 3) := by decide +kernel
theorem dL_law_216 : decode cL_law 216 = .ok (.iconst 0, 1) := by decide +kernel
theorem dL_law_217 : decode cL_law 217 = .ok (.ireturn, 1) := by decide +kernel
theorem dL_law_218 : decode cL_law 218 = .ok (.aload_n 1, 1) := by decide +kernel
theorem dL_law_219 : decode cL_law 219 = .ok (.aload_n 0, 1) := by decide +kernel
theorem dL_law_220 : decode cL_law 220 = .ok (.iload_n 3, 1) := by decide +kernel
theorem dL_law_221 : decode cL_law 221 = .ok (.iconst 1, 1) := by decide +kernel
theorem dL_law_222 : decode cL_law 222 = .ok (.iadd, 1) := by decide +kernel
theorem dL_law_223 : decode cL_law 223 = .ok (.iaload, 1) := by decide +kernel
theorem dL_law_224 : decode cL_law 224 = .ok (.invokevirtual 32, 3) := by decide +kernel
theorem dL_law_227 : decode cL_law 227 = .ok (.aload_n 2, 1) := by decide +kernel
theorem dL_law_228 : decode cL_law 228 = .ok (.aload_n 0, 1) := by decide +kernel
theorem dL_law_229 : decode cL_law 229 = .ok (.iload_n 3, 1) := by decide +kernel
theorem dL_law_230 : decode cL_law 230 = .ok (.iconst 1, 1) := by decide +kernel
theorem dL_law_231 : decode cL_law 231 = .ok (.iadd, 1) := by decide +kernel
theorem dL_law_232 : decode cL_law 232 = .ok (.iaload, 1) := by decide +kernel
theorem dL_law_233 : decode cL_law 233 = .ok (.invokevirtual 35, 3) := by decide +kernel
theorem dL_law_236 : decode cL_law 236 = .ok (.if_icmp .eq 486, 3) := by decide +kernel
theorem dL_law_239 : decode cL_law 239 = .ok (.iconst 0, 1) := by decide +kernel
theorem dL_law_240 : decode cL_law 240 = .ok (.ireturn, 1) := by decide +kernel
theorem dL_law_241 : decode cL_law 241 = .ok (.aload_n 1, 1) := by decide +kernel
theorem dL_law_242 : decode cL_law 242 = .ok (.aload_n 0, 1) := by decide +kernel
theorem dL_law_243 : decode cL_law 243 = .ok (.iload_n 3, 1) := by decide +kernel
theorem dL_law_244 : decode cL_law 244 = .ok (.iconst 1, 1) := by decide +kernel
theorem dL_law_245 : decode cL_law 245 = .ok (.iadd, 1) := by decide +kernel
theorem dL_law_246 : decode cL_law 246 = .ok (.iaload, 1) := by decide +kernel
theorem dL_law_247 : decode cL_law 247 = .ok (.aload_n 0, 1) := by decide +kernel
theorem dL_law_248 : decode cL_law 248 = .ok (.iload_n 3, 1) := by decide +kernel
theorem dL_law_249 : decode cL_law 249 = .ok (.iconst 2, 1) := by decide +kernel
theorem dL_law_250 : decode cL_law 250 = .ok (.iadd, 1) := by decide +kernel
theorem dL_law_251 : decode cL_law 251 = .ok (.iaload, 1) := by decide +kernel
theorem dL_law_252 : decode cL_law 252 = .ok (.invokevirtual 36, 3) := by decide +kernel
theorem dL_law_255 : decode cL_law 255 = .ok (.aload_n 2, 1) := by decide +kernel
theorem dL_law_256 : decode cL_law 256 = .ok (.aload_n 0, 1) := by decide +kernel
theorem dL_law_257 : decode cL_law 257 = .ok (.iload_n 3, 1) := by decide +kernel
theorem dL_law_258 : decode cL_law 258 = .ok (.iconst 1, 1) := by decide +kernel
theorem dL_law_259 : decode cL_law 259 = .ok (.iadd, 1) := by decide +kernel
theorem dL_law_260 : decode cL_law 260 = .ok (.iaload, 1) := by decide +kernel
theorem dL_law_261 : decode cL_law 261 = .ok (.aload_n 0, 1) := by decide +kernel
theorem dL_law_262 : decode cL_law 262 = .ok (.iload_n 3, 1) := by decide +kernel
theorem dL_law_263 : decode cL_law 263 = .ok (.iconst 2, 1) := by decide +kernel
theorem dL_law_264 : decode cL_law 264 = .ok (.iadd, 1) := by decide +kernel
theorem dL_law_265 : decode cL_law 265 = .ok (.iaload, 1) := by decide +kernel
theorem dL_law_266 : decode cL_law 266 = .ok (.invokevirtual 39, 3) := by decide +kernel
theorem dL_law_269 : decode cL_law 269 = .ok (.if_icmp .eq 453, 3) := by decide +kernel
theorem dL_law_272 : decode cL_law 272 = .ok (.iconst 0, 1) := by decide +kernel
theorem dL_law_273 : decode cL_law 273 = .ok (.ireturn, 1) := by decide +kernel
theorem dL_law_274 : decode cL_law 274 = .ok (.aload_n 1, 1) := by decide +kernel
theorem dL_law_275 : decode cL_law 275 = .ok (.aload_n 0, 1) := by decide +kernel
theorem dL_law_276 : decode cL_law 276 = .ok (.iload_n 3, 1) := by decide +kernel
theorem dL_law_277 : decode cL_law 277 = .ok (.iconst 1, 1) := by decide +kernel
theorem dL_law_278 : decode cL_law 278 = .ok (.iadd, 1) := by decide +kernel
theorem dL_law_279 : decode cL_law 279 = .ok (.iaload, 1) := by decide +kernel
theorem dL_law_280 : decode cL_law 280 = .ok (.invokevirtual 40, 3) := by decide +kernel
theorem dL_law_283 : decode cL_law 283 = .ok (.aload_n 2, 1) := by decide +kernel
theorem dL_law_284 : decode cL_law 284 = .ok (.aload_n 0, 1) := by decide +kernel
theorem dL_law_285 : decode cL_law 285 = .ok (.iload_n 3, 1) := by decide +kernel
theorem dL_law_286 : decode cL_law 286 = .ok (.iconst 1, 1) := by decide +kernel
theorem dL_law_287 : decode cL_law 287 = .ok (.iadd, 1) := by decide +kernel
theorem dL_law_288 : decode cL_law 288 = .ok (.iaload, 1) := by decide +kernel
theorem dL_law_289 : decode cL_law 289 = .ok (.invokevirtual 43, 3) := by decide +kernel
theorem dL_law_292 : decode cL_law 292 = .ok (.if_icmp .eq 430, 3) := by decide +kernel
theorem dL_law_295 : decode cL_law 295 = .ok (.iconst 0, 1) := by decide +kernel
theorem dL_law_296 : decode cL_law 296 = .ok (.ireturn, 1) := by decide +kernel
theorem dL_law_297 : decode cL_law 297 = .ok (.aload_n 1, 1) := by decide +kernel
theorem dL_law_298 : decode cL_law 298 = .ok (.aload_n 0, 1) := by decide +kernel
theorem dL_law_299 : decode cL_law 299 = .ok (.iload_n 3, 1) := by decide +kernel
theorem dL_law_300 : decode cL_law 300 = .ok (.iconst 1, 1) := by decide +kernel
theorem dL_law_301 : decode cL_law 301 = .ok (.iadd, 1) := by decide +kernel
theorem dL_law_302 : decode cL_law 302 = .ok (.iaload, 1) := by decide +kernel
theorem dL_law_303 : decode cL_law 303 = .ok (.aload_n 0, 1) := by decide +kernel
theorem dL_law_304 : decode cL_law 304 = .ok (.iload_n 3, 1) := by decide +kernel
theorem dL_law_305 : decode cL_law 305 = .ok (.iconst 2, 1) := by decide +kernel
theorem dL_law_306 : decode cL_law 306 = .ok (.iadd, 1) := by decide +kernel
theorem dL_law_307 : decode cL_law 307 = .ok (.iaload, 1) := by decide +kernel
theorem dL_law_308 : decode cL_law 308 = .ok (.aload_n 0, 1) := by decide +kernel
theorem dL_law_309 : decode cL_law 309 = .ok (.iload_n 3, 1) := by decide +kernel
theorem dL_law_310 : decode cL_law 310 = .ok (.iconst 3, 1) := by decide +kernel
theorem dL_law_311 : decode cL_law 311 = .ok (.iadd, 1) := by decide +kernel
theorem dL_law_312 : decode cL_law 312 = .ok (.iaload, 1) := by decide +kernel
theorem dL_law_313 : decode cL_law 313 = .ok (.aload_n 0, 1) := by decide +kernel
theorem dL_law_314 : decode cL_law 314 = .ok (.iload_n 3, 1) := by decide +kernel
theorem dL_law_315 : decode cL_law 315 = .ok (.iconst 4, 1) := by decide +kernel
theorem dL_law_316 : decode cL_law 316 = .ok (.iadd, 1) := by decide +kernel
theorem dL_law_317 : decode cL_law 317 = .ok (.iaload, 1) := by decide +kernel
theorem dL_law_318 : decode cL_law 318 = .ok (.invokevirtual 44, 3) := by decide +kernel
theorem dL_law_321 : decode cL_law 321 = .ok (.aload_n 2, 1) := by decide +kernel
theorem dL_law_322 : decode cL_law 322 = .ok (.aload_n 0, 1) := by decide +kernel
theorem dL_law_323 : decode cL_law 323 = .ok (.iload_n 3, 1) := by decide +kernel
theorem dL_law_324 : decode cL_law 324 = .ok (.iconst 1, 1) := by decide +kernel
theorem dL_law_325 : decode cL_law 325 = .ok (.iadd, 1) := by decide +kernel
theorem dL_law_326 : decode cL_law 326 = .ok (.iaload, 1) := by decide +kernel
theorem dL_law_327 : decode cL_law 327 = .ok (.aload_n 0, 1) := by decide +kernel
theorem dL_law_328 : decode cL_law 328 = .ok (.iload_n 3, 1) := by decide +kernel
theorem dL_law_329 : decode cL_law 329 = .ok (.iconst 2, 1) := by decide +kernel
theorem dL_law_330 : decode cL_law 330 = .ok (.iadd, 1) := by decide +kernel
theorem dL_law_331 : decode cL_law 331 = .ok (.iaload, 1) := by decide +kernel
theorem dL_law_332 : decode cL_law 332 = .ok (.aload_n 0, 1) := by decide +kernel
theorem dL_law_333 : decode cL_law 333 = .ok (.iload_n 3, 1) := by decide +kernel
theorem dL_law_334 : decode cL_law 334 = .ok (.iconst 3, 1) := by decide +kernel
theorem dL_law_335 : decode cL_law 335 = .ok (.iadd, 1) := by decide +kernel
theorem dL_law_336 : decode cL_law 336 = .ok (.iaload, 1) := by decide +kernel
theorem dL_law_337 : decode cL_law 337 = .ok (.aload_n 0, 1) := by decide +kernel
theorem dL_law_338 : decode cL_law 338 = .ok (.iload_n 3, 1) := by decide +kernel
theorem dL_law_339 : decode cL_law 339 = .ok (.iconst 4, 1) := by decide +kernel
theorem dL_law_340 : decode cL_law 340 = .ok (.iadd, 1) := by decide +kernel
theorem dL_law_341 : decode cL_law 341 = .ok (.iaload, 1) := by decide +kernel
theorem dL_law_342 : decode cL_law 342 = .ok (.invokevirtual 48, 3) := by decide +kernel
theorem dL_law_345 : decode cL_law 345 = .ok (.if_icmp .eq 377, 3) := by decide +kernel
theorem dL_law_348 : decode cL_law 348 = .ok (.iconst 0, 1) := by decide +kernel
theorem dL_law_349 : decode cL_law 349 = .ok (.ireturn, 1) := by decide +kernel
theorem dL_law_350 : decode cL_law 350 = .ok (.aload_n 1, 1) := by decide +kernel
theorem dL_law_351 : decode cL_law 351 = .ok (.aload_n 0, 1) := by decide +kernel
theorem dL_law_352 : decode cL_law 352 = .ok (.iload_n 3, 1) := by decide +kernel
theorem dL_law_353 : decode cL_law 353 = .ok (.iconst 1, 1) := by decide +kernel
theorem dL_law_354 : decode cL_law 354 = .ok (.iadd, 1) := by decide +kernel
theorem dL_law_355 : decode cL_law 355 = .ok (.iaload, 1) := by decide +kernel
theorem dL_law_356 : decode cL_law 356 = .ok (.invokevirtual 49, 3) := by decide +kernel
theorem dL_law_359 : decode cL_law 359 = .ok (.aload_n 2, 1) := by decide +kernel
theorem dL_law_360 : decode cL_law 360 = .ok (.aload_n 0, 1) := by decide +kernel
theorem dL_law_361 : decode cL_law 361 = .ok (.iload_n 3, 1) := by decide +kernel
theorem dL_law_362 : decode cL_law 362 = .ok (.iconst 1, 1) := by decide +kernel
theorem dL_law_363 : decode cL_law 363 = .ok (.iadd, 1) := by decide +kernel
theorem dL_law_364 : decode cL_law 364 = .ok (.iaload, 1) := by decide +kernel
theorem dL_law_365 : decode cL_law 365 = .ok (.invokevirtual 52, 3) := by decide +kernel
theorem dL_law_368 : decode cL_law 368 = .ok (.if_icmp .eq 354, 3) := by decide +kernel
theorem dL_law_371 : decode cL_law 371 = .ok (.iconst 0, 1) := by decide +kernel
theorem dL_law_372 : decode cL_law 372 = .ok (.ireturn, 1) := by decide +kernel
theorem dL_law_373 : decode cL_law 373 = .ok (.aload_n 1, 1) := by decide +kernel
theorem dL_law_374 : decode cL_law 374 = .ok (.aload_n 0, 1) := by decide +kernel
theorem dL_law_375 : decode cL_law 375 = .ok (.iload_n 3, 1) := by decide +kernel
theorem dL_law_376 : decode cL_law 376 = .ok (.iconst 1, 1) := by decide +kernel
theorem dL_law_377 : decode cL_law 377 = .ok (.iadd, 1) := by decide +kernel
theorem dL_law_378 : decode cL_law 378 = .ok (.iaload, 1) := by decide +kernel
theorem dL_law_379 : decode cL_law 379 = .ok (.aload_n 0, 1) := by decide +kernel
theorem dL_law_380 : decode cL_law 380 = .ok (.iload_n 3, 1) := by decide +kernel
theorem dL_law_381 : decode cL_law 381 = .ok (.iconst 2, 1) := by decide +kernel
theorem dL_law_382 : decode cL_law 382 = .ok (.iadd, 1) := by decide +kernel
theorem dL_law_383 : decode cL_law 383 = .ok (.iaload, 1) := by decide +kernel
theorem dL_law_384 : decode cL_law 384 = .ok (.aload_n 0, 1) := by decide +kernel
theorem dL_law_385 : decode cL_law 385 = .ok (.iload_n 3, 1) := by decide +kernel
theorem dL_law_386 : decode cL_law 386 = .ok (.iconst 3, 1) := by decide +kernel
theorem dL_law_387 : decode cL_law 387 = .ok (.iadd, 1) := by decide +kernel
theorem dL_law_388 : decode cL_law 388 = .ok (.iaload, 1) := by decide +kernel
theorem dL_law_389 : decode cL_law 389 = .ok (.aload_n 0, 1) := by decide +kernel
theorem dL_law_390 : decode cL_law 390 = .ok (.iload_n 3, 1) := by decide +kernel
theorem dL_law_391 : decode cL_law 391 = .ok (.iconst 4, 1) := by decide +kernel
theorem dL_law_392 : decode cL_law 392 = .ok (.iadd, 1) := by decide +kernel
theorem dL_law_393 : decode cL_law 393 = .ok (.iaload, 1) := by decide +kernel
theorem dL_law_394 : decode cL_law 394 = .ok (.invokevirtual 53, 3) := by decide +kernel
theorem dL_law_397 : decode cL_law 397 = .ok (.aload_n 2, 1) := by decide +kernel
theorem dL_law_398 : decode cL_law 398 = .ok (.aload_n 0, 1) := by decide +kernel
theorem dL_law_399 : decode cL_law 399 = .ok (.iload_n 3, 1) := by decide +kernel
theorem dL_law_400 : decode cL_law 400 = .ok (.iconst 1, 1) := by decide +kernel
theorem dL_law_401 : decode cL_law 401 = .ok (.iadd, 1) := by decide +kernel
theorem dL_law_402 : decode cL_law 402 = .ok (.iaload, 1) := by decide +kernel
theorem dL_law_403 : decode cL_law 403 = .ok (.aload_n 0, 1) := by decide +kernel
theorem dL_law_404 : decode cL_law 404 = .ok (.iload_n 3, 1) := by decide +kernel
theorem dL_law_405 : decode cL_law 405 = .ok (.iconst 2, 1) := by decide +kernel
theorem dL_law_406 : decode cL_law 406 = .ok (.iadd, 1) := by decide +kernel
theorem dL_law_407 : decode cL_law 407 = .ok (.iaload, 1) := by decide +kernel
theorem dL_law_408 : decode cL_law 408 = .ok (.aload_n 0, 1) := by decide +kernel
theorem dL_law_409 : decode cL_law 409 = .ok (.iload_n 3, 1) := by decide +kernel
theorem dL_law_410 : decode cL_law 410 = .ok (.iconst 3, 1) := by decide +kernel
theorem dL_law_411 : decode cL_law 411 = .ok (.iadd, 1) := by decide +kernel
theorem dL_law_412 : decode cL_law 412 = .ok (.iaload, 1) := by decide +kernel
theorem dL_law_413 : decode cL_law 413 = .ok (.aload_n 0, 1) := by decide +kernel
theorem dL_law_414 : decode cL_law 414 = .ok (.iload_n 3, 1) := by decide +kernel
theorem dL_law_415 : decode cL_law 415 = .ok (.iconst 4, 1) := by decide +kernel
theorem dL_law_416 : decode cL_law 416 = .ok (.iadd, 1) := by decide +kernel
theorem dL_law_417 : decode cL_law 417 = .ok (.iaload, 1) := by decide +kernel
theorem dL_law_418 : decode cL_law 418 = .ok (.invokevirtual 56, 3) := by decide +kernel
theorem dL_law_421 : decode cL_law 421 = .ok (.if_icmp .eq 301, 3) := by decide +kernel
theorem dL_law_424 : decode cL_law 424 = .ok (.iconst 0, 1) := by decide +kernel
theorem dL_law_425 : decode cL_law 425 = .ok (.ireturn, 1) := by decide +kernel
theorem dL_law_426 : decode cL_law 426 = .ok (.aload_n 1, 1) := by decide +kernel
theorem dL_law_427 : decode cL_law 427 = .ok (.invokevirtual 57, 3) := by decide +kernel
theorem dL_law_430 : decode cL_law 430 = .ok (.aload_n 2, 1) := by decide +kernel
theorem dL_law_431 : decode cL_law 431 = .ok (.invokevirtual 60, 3) := by decide +kernel
theorem dL_law_434 : decode cL_law 434 = .ok (.if_icmp .eq 288, 3) := by decide +kernel
theorem dL_law_437 : decode cL_law 437 = .ok (.iconst 0, 1) := by decide +kernel
theorem dL_law_438 : decode cL_law 438 = .ok (.ireturn, 1) := by decide +kernel
theorem dL_law_439 : decode cL_law 439 = .ok (.aload_n 1, 1) := by decide +kernel
theorem dL_law_440 : decode cL_law 440 = .ok (.aload_n 0, 1) := by decide +kernel
theorem dL_law_441 : decode cL_law 441 = .ok (.iload_n 3, 1) := by decide +kernel
theorem dL_law_442 : decode cL_law 442 = .ok (.iconst 1, 1) := by decide +kernel
theorem dL_law_443 : decode cL_law 443 = .ok (.iadd, 1) := by decide +kernel
theorem dL_law_444 : decode cL_law 444 = .ok (.iaload, 1) := by decide +kernel
theorem dL_law_445 : decode cL_law 445 = .ok (.aload_n 0, 1) := by decide +kernel
theorem dL_law_446 : decode cL_law 446 = .ok (.iload_n 3, 1) := by decide +kernel
theorem dL_law_447 : decode cL_law 447 = .ok (.iconst 2, 1) := by decide +kernel
theorem dL_law_448 : decode cL_law 448 = .ok (.iadd, 1) := by decide +kernel
theorem dL_law_449 : decode cL_law 449 = .ok (.iaload, 1) := by decide +kernel
theorem dL_law_450 : decode cL_law 450 = .ok (.invokevirtual 61, 3) := by decide +kernel
theorem dL_law_453 : decode cL_law 453 = .ok (.aload_n 2, 1) := by decide +kernel
theorem dL_law_454 : decode cL_law 454 = .ok (.aload_n 0, 1) := by decide +kernel
theorem dL_law_455 : decode cL_law 455 = .ok (.iload_n 3, 1) := by decide +kernel
theorem dL_law_456 : decode cL_law 456 = .ok (.iconst 1, 1) := by decide +kernel
theorem dL_law_457 : decode cL_law 457 = .ok (.iadd, 1) := by decide +kernel
theorem dL_law_458 : decode cL_law 458 = .ok (.iaload, 1) := by decide +kernel
theorem dL_law_459 : decode cL_law 459 = .ok (.aload_n 0, 1) := by decide +kernel
theorem dL_law_460 : decode cL_law 460 = .ok (.iload_n 3, 1) := by decide +kernel
theorem dL_law_461 : decode cL_law 461 = .ok (.iconst 2, 1) := by decide +kernel
theorem dL_law_462 : decode cL_law 462 = .ok (.iadd, 1) := by decide +kernel
theorem dL_law_463 : decode cL_law 463 = .ok (.iaload, 1) := by decide +kernel
theorem dL_law_464 : decode cL_law 464 = .ok (.invokevirtual 64, 3) := by decide +kernel
theorem dL_law_467 : decode cL_law 467 = .ok (.if_icmp .eq 255, 3) := by decide +kernel
theorem dL_law_470 : decode cL_law 470 = .ok (.iconst 0, 1) := by decide +kernel
theorem dL_law_471 : decode cL_law 471 = .ok (.ireturn, 1) := by decide +kernel
theorem dL_law_472 : decode cL_law 472 = .ok (.aload_n 1, 1) := by decide +kernel
theorem dL_law_473 : decode cL_law 473 = .ok (.aload_n 0, 1) := by decide +kernel
theorem dL_law_474 : decode cL_law 474 = .ok (.iload_n 3, 1) := by decide +kernel
theorem dL_law_475 : decode cL_law 475 = .ok (.iconst 1, 1) := by decide +kernel
theorem dL_law_476 : decode cL_law 476 = .ok (.iadd, 1) := by decide +kernel
theorem dL_law_477 : decode cL_law 477 = .ok (.iaload, 1) := by decide +kernel
theorem dL_law_478 : decode cL_law 478 = .ok (.aload_n 0, 1) := by decide +kernel
theorem dL_law_479 : decode cL_law 479 = .ok (.iload_n 3, 1) := by decide +kernel
theorem dL_law_480 : decode cL_law 480 = .ok (.iconst 2, 1) := by decide +kernel
theorem dL_law_481 : decode cL_law 481 = .ok (.iadd, 1) := by decide +kernel
theorem dL_law_482 : decode cL_law 482 = .ok (.iaload, 1) := by decide +kernel
theorem dL_law_483 : decode cL_law 483 = .ok (.aload_n 0, 1) := by decide +kernel
theorem dL_law_484 : decode cL_law 484 = .ok (.iload_n 3, 1) := by decide +kernel
theorem dL_law_485 : decode cL_law 485 = .ok (.iconst 3, 1) := by decide +kernel
theorem dL_law_486 : decode cL_law 486 = .ok (.iadd, 1) := by decide +kernel
theorem dL_law_487 : decode cL_law 487 = .ok (.iaload, 1) := by decide +kernel
theorem dL_law_488 : decode cL_law 488 = .ok (.invokevirtual 65, 3) := by decide +kernel
theorem dL_law_491 : decode cL_law 491 = .ok (.aload_n 2, 1) := by decide +kernel
theorem dL_law_492 : decode cL_law 492 = .ok (.aload_n 0, 1) := by decide +kernel
theorem dL_law_493 : decode cL_law 493 = .ok (.iload_n 3, 1) := by decide +kernel
theorem dL_law_494 : decode cL_law 494 = .ok (.iconst 1, 1) := by decide +kernel
theorem dL_law_495 : decode cL_law 495 = .ok (.iadd, 1) := by decide +kernel
theorem dL_law_496 : decode cL_law 496 = .ok (.iaload, 1) := by decide +kernel
theorem dL_law_497 : decode cL_law 497 = .ok (.aload_n 0, 1) := by decide +kernel
theorem dL_law_498 : decode cL_law 498 = .ok (.iload_n 3, 1) := by decide +kernel
theorem dL_law_499 : decode cL_law 499 = .ok (.iconst 2, 1) := by decide +kernel
theorem dL_law_500 : decode cL_law 500 = .ok (.iadd, 1) := by decide +kernel
theorem dL_law_501 : decode cL_law 501 = .ok (.iaload, 1) := by decide +kernel
theorem dL_law_502 : decode cL_law 502 = .ok (.aload_n 0, 1) := by decide +kernel
theorem dL_law_503 : decode cL_law 503 = .ok (.iload_n 3, 1) := by decide +kernel
theorem dL_law_504 : decode cL_law 504 = .ok (.iconst 3, 1) := by decide +kernel
theorem dL_law_505 : decode cL_law 505 = .ok (.iadd, 1) := by decide +kernel
theorem dL_law_506 : decode cL_law 506 = .ok (.iaload, 1) := by decide +kernel
theorem dL_law_507 : decode cL_law 507 = .ok (.invokevirtual 69, 3) := by decide +kernel
theorem dL_law_510 : decode cL_law 510 = .ok (.if_icmp .eq 212, 3) := by decide +kernel
theorem dL_law_513 : decode cL_law 513 = .ok (.iconst 0, 1) := by decide +kernel
theorem dL_law_514 : decode cL_law 514 = .ok (.ireturn, 1) := by decide +kernel
theorem dL_law_515 : decode cL_law 515 = .ok (.aload_n 1, 1) := by decide +kernel
theorem dL_law_516 : decode cL_law 516 = .ok (.aload_n 0, 1) := by decide +kernel
theorem dL_law_517 : decode cL_law 517 = .ok (.iload_n 3, 1) := by decide +kernel
theorem dL_law_518 : decode cL_law 518 = .ok (.iconst 1, 1) := by decide +kernel
theorem dL_law_519 : decode cL_law 519 = .ok (.iadd, 1) := by decide +kernel
theorem dL_law_520 : decode cL_law 520 = .ok (.iaload, 1) := by decide +kernel
theorem dL_law_521 : decode cL_law 521 = .ok (.aload_n 0, 1) := by decide +kernel
theorem dL_law_522 : decode cL_law 522 = .ok (.iload_n 3, 1) := by decide +kernel
theorem dL_law_523 : decode cL_law 523 = .ok (.iconst 2, 1) := by decide +kernel
theorem dL_law_524 : decode cL_law 524 = .ok (.iadd, 1) := by decide +kernel
theorem dL_law_525 : decode cL_law 525 = .ok (.iaload, 1) := by decide +kernel
theorem dL_law_526 : decode cL_law 526 = .ok (.invokevirtual 70, 3) := by decide +kernel
theorem dL_law_529 : decode cL_law 529 = .ok (.aload_n 2, 1) := by decide +kernel
theorem dL_law_530 : decode cL_law 530 = .ok (.aload_n 0, 1) := by decide +kernel
theorem dL_law_531 : decode cL_law 531 = .ok (.iload_n 3, 1) := by decide +kernel
theorem dL_law_532 : decode cL_law 532 = .ok (.iconst 1, 1) := by decide +kernel
theorem dL_law_533 : decode cL_law 533 = .ok (.iadd, 1) := by decide +kernel
theorem dL_law_534 : decode cL_law 534 = .ok (.iaload, 1) := by decide +kernel
theorem dL_law_535 : decode cL_law 535 = .ok (.aload_n 0, 1) := by decide +kernel
theorem dL_law_536 : decode cL_law 536 = .ok (.iload_n 3, 1) := by decide +kernel
theorem dL_law_537 : decode cL_law 537 = .ok (.iconst 2, 1) := by decide +kernel
theorem dL_law_538 : decode cL_law 538 = .ok (.iadd, 1) := by decide +kernel
theorem dL_law_539 : decode cL_law 539 = .ok (.iaload, 1) := by decide +kernel
theorem dL_law_540 : decode cL_law 540 = .ok (.invokevirtual 73, 3) := by decide +kernel
theorem dL_law_543 : decode cL_law 543 = .ok (.if_icmp .eq 179, 3) := by decide +kernel
theorem dL_law_546 : decode cL_law 546 = .ok (.iconst 0, 1) := by decide +kernel
theorem dL_law_547 : decode cL_law 547 = .ok (.ireturn, 1) := by decide +kernel
theorem dL_law_548 : decode cL_law 548 = .ok (.aload_n 1, 1) := by decide +kernel
theorem dL_law_549 : decode cL_law 549 = .ok (.aload_n 0, 1) := by decide +kernel
theorem dL_law_550 : decode cL_law 550 = .ok (.iload_n 3, 1) := by decide +kernel
theorem dL_law_551 : decode cL_law 551 = .ok (.iconst 1, 1) := by decide +kernel
theorem dL_law_552 : decode cL_law 552 = .ok (.iadd, 1) := by decide +kernel
theorem dL_law_553 : decode cL_law 553 = .ok (.iaload, 1) := by decide +kernel
theorem dL_law_554 : decode cL_law 554 = .ok (.aload_n 0, 1) := by decide +kernel
theorem dL_law_555 : decode cL_law 555 = .ok (.iload_n 3, 1) := by decide +kernel
theorem dL_law_556 : decode cL_law 556 = .ok (.iconst 2, 1) := by decide +kernel
theorem dL_law_557 : decode cL_law 557 = .ok (.iadd, 1) := by decide +kernel
theorem dL_law_558 : decode cL_law 558 = .ok (.iaload, 1) := by decide +kernel
theorem dL_law_559 : decode cL_law 559 = .ok (.invokevirtual 74, 3) := by decide +kernel
theorem dL_law_562 : decode cL_law 562 = .ok (.aload_n 2, 1) := by decide +kernel
theorem dL_law_563 : decode cL_law 563 = .ok (.aload_n 0, 1) := by decide +kernel
theorem dL_law_564 : decode cL_law 564 = .ok (.iload_n 3, 1) := by decide +kernel
theorem dL_law_565 : decode cL_law 565 = .ok (.iconst 1, 1) := by decide +kernel
theorem dL_law_566 : decode cL_law 566 = .ok (.iadd, 1) := by decide +kernel
theorem dL_law_567 : decode cL_law 567 = .ok (.iaload, 1) := by decide +kernel
theorem dL_law_568 : decode cL_law 568 = .ok (.aload_n 0, 1) := by decide +kernel
theorem dL_law_569 : decode cL_law 569 = .ok (.iload_n 3, 1) := by decide +kernel
theorem dL_law_570 : decode cL_law 570 = .ok (.iconst 2, 1) := by decide +kernel
theorem dL_law_571 : decode cL_law 571 = .ok (.iadd, 1) := by decide +kernel
theorem dL_law_572 : decode cL_law 572 = .ok (.iaload, 1) := by decide +kernel
theorem dL_law_573 : decode cL_law 573 = .ok (.invokevirtual 77, 3) := by decide +kernel
theorem dL_law_576 : decode cL_law 576 = .ok (.if_icmp .eq 146, 3) := by decide +kernel
theorem dL_law_579 : decode cL_law 579 = .ok (.iconst 0, 1) := by decide +kernel
theorem dL_law_580 : decode cL_law 580 = .ok (.ireturn, 1) := by decide +kernel
theorem dL_law_581 : decode cL_law 581 = .ok (.aload_n 1, 1) := by decide +kernel
theorem dL_law_582 : decode cL_law 582 = .ok (.aload_n 0, 1) := by decide +kernel
theorem dL_law_583 : decode cL_law 583 = .ok (.iload_n 3, 1) := by decide +kernel
theorem dL_law_584 : decode cL_law 584 = .ok (.iconst 1, 1) := by decide +kernel
theorem dL_law_585 : decode cL_law 585 = .ok (.iadd, 1) := by decide +kernel
theorem dL_law_586 : decode cL_law 586 = .ok (.iaload, 1) := by decide +kernel
theorem dL_law_587 : decode cL_law 587 = .ok (.aload_n 0, 1) := by decide +kernel
theorem dL_law_588 : decode cL_law 588 = .ok (.iload_n 3, 1) := by decide +kernel
theorem dL_law_589 : decode cL_law 589 = .ok (.iconst 2, 1) := by decide +kernel
theorem dL_law_590 : decode cL_law 590 = .ok (.iadd, 1) := by decide +kernel
theorem dL_law_591 : decode cL_law 591 = .ok (.iaload, 1) := by decide +kernel
theorem dL_law_592 : decode cL_law 592 = .ok (.invokevirtual 78, 3) := by decide +kernel
theorem dL_law_595 : decode cL_law 595 = .ok (.aload_n 2, 1) := by decide +kernel
theorem dL_law_596 : decode cL_law 596 = .ok (.aload_n 0, 1) := by decide +kernel
theorem dL_law_597 : decode cL_law 597 = .ok (.iload_n 3, 1) := by decide +kernel
theorem dL_law_598 : decode cL_law 598 = .ok (.iconst 1, 1) := by decide +kernel
theorem dL_law_599 : decode cL_law 599 = .ok (.iadd, 1) := by decide +kernel
theorem dL_law_600 : decode cL_law 600 = .ok (.iaload, 1) := by decide +kernel
theorem dL_law_601 : decode cL_law 601 = .ok (.aload_n 0, 1) := by decide +kernel
theorem dL_law_602 : decode cL_law 602 = .ok (.iload_n 3, 1) := by decide +kernel
theorem dL_law_603 : decode cL_law 603 = .ok (.iconst 2, 1) := by decide +kernel
theorem dL_law_604 : decode cL_law 604 = .ok (.iadd, 1) := by decide +kernel
theorem dL_law_605 : decode cL_law 605 = .ok (.iaload, 1) := by decide +kernel
theorem dL_law_606 : decode cL_law 606 = .ok (.invokevirtual 81, 3) := by decide +kernel
theorem dL_law_609 : decode cL_law 609 = .ok (.if_icmp .eq 113, 3) := by decide +kernel
theorem dL_law_612 : decode cL_law 612 = .ok (.iconst 0, 1) := by decide +kernel
theorem dL_law_613 : decode cL_law 613 = .ok (.ireturn, 1) := by decide +kernel
theorem dL_law_614 : decode cL_law 614 = .ok (.aload_n 1, 1) := by decide +kernel
theorem dL_law_615 : decode cL_law 615 = .ok (.invokevirtual 82, 3) := by decide +kernel
theorem dL_law_618 : decode cL_law 618 = .ok (.aload_n 2, 1) := by decide +kernel
theorem dL_law_619 : decode cL_law 619 = .ok (.invokevirtual 85, 3) := by decide +kernel
theorem dL_law_622 : decode cL_law 622 = .ok (.if_icmp .eq 100, 3) := by decide +kernel
theorem dL_law_625 : decode cL_law 625 = .ok (.iconst 0, 1) := by decide +kernel
theorem dL_law_626 : decode cL_law 626 = .ok (.ireturn, 1) := by decide +kernel
theorem dL_law_627 : decode cL_law 627 = .ok (.aload_n 1, 1) := by decide +kernel
theorem dL_law_628 : decode cL_law 628 = .ok (.invokevirtual 86, 3) := by decide +kernel
theorem dL_law_631 : decode cL_law 631 = .ok (.aload_n 2, 1) := by decide +kernel
theorem dL_law_632 : decode cL_law 632 = .ok (.invokevirtual 89, 3) := by decide +kernel
theorem dL_law_635 : decode cL_law 635 = .ok (.if_icmp .eq 87, 3) := by decide +kernel
theorem dL_law_638 : decode cL_law 638 = .ok (.iconst 0, 1) := by decide +kernel
theorem dL_law_639 : decode cL_law 639 = .ok (.ireturn, 1) := by decide +kernel
theorem dL_law_640 : decode cL_law 640 = .ok (.aload_n 1, 1) := by decide +kernel
theorem dL_law_641 : decode cL_law 641 = .ok (.invokevirtual 90, 3) := by decide +kernel
theorem dL_law_644 : decode cL_law 644 = .ok (.aload_n 2, 1) := by decide +kernel
theorem dL_law_645 : decode cL_law 645 = .ok (.invokevirtual 93, 3) := by decide +kernel
theorem dL_law_648 : decode cL_law 648 = .ok (.if_icmp .eq 74, 3) := by decide +kernel
theorem dL_law_651 : decode cL_law 651 = .ok (.iconst 0, 1) := by decide +kernel
theorem dL_law_652 : decode cL_law 652 = .ok (.ireturn, 1) := by decide +kernel
theorem dL_law_653 : decode cL_law 653 = .ok (.aload_n 1, 1) := by decide +kernel
theorem dL_law_654 : decode cL_law 654 = .ok (.aload_n 0, 1) := by decide +kernel
theorem dL_law_655 : decode cL_law 655 = .ok (.iload_n 3, 1) := by decide +kernel
theorem dL_law_656 : decode cL_law 656 = .ok (.iconst 1, 1) := by decide +kernel
theorem dL_law_657 : decode cL_law 657 = .ok (.iadd, 1) := by decide +kernel
theorem dL_law_658 : decode cL_law 658 = .ok (.iaload, 1) := by decide +kernel
theorem dL_law_659 : decode cL_law 659 = .ok (.invokevirtual 94, 3) := by decide +kernel
theorem dL_law_662 : decode cL_law 662 = .ok (.aload_n 2, 1) := by decide +kernel
theorem dL_law_663 : decode cL_law 663 = .ok (.aload_n 0, 1) := by decide +kernel
theorem dL_law_664 : decode cL_law 664 = .ok (.iload_n 3, 1) := by decide +kernel
theorem dL_law_665 : decode cL_law 665 = .ok (.iconst 1, 1) := by decide +kernel
theorem dL_law_666 : decode cL_law 666 = .ok (.iadd, 1) := by decide +kernel
theorem dL_law_667 : decode cL_law 667 = .ok (.iaload, 1) := by decide +kernel
theorem dL_law_668 : decode cL_law 668 = .ok (.invokevirtual 97, 3) := by decide +kernel
theorem dL_law_671 : decode cL_law 671 = .ok (.if_icmp .eq 51, 3) := by decide +kernel
theorem dL_law_674 : decode cL_law 674 = .ok (.iconst 0, 1) := by decide +kernel
theorem dL_law_675 : decode cL_law 675 = .ok (.ireturn, 1) := by decide +kernel
theorem dL_law_676 : decode cL_law 676 = .ok (.aload_n 1, 1) := by decide +kernel
theorem dL_law_677 : decode cL_law 677 = .ok (.aload_n 0, 1) := by decide +kernel
theorem dL_law_678 : decode cL_law 678 = .ok (.iload_n 3, 1) := by decide +kernel
theorem dL_law_679 : decode cL_law 679 = .ok (.iconst 1, 1) := by decide +kernel
theorem dL_law_680 : decode cL_law 680 = .ok (.iadd, 1) := by decide +kernel
theorem dL_law_681 : decode cL_law 681 = .ok (.iaload, 1) := by decide +kernel
theorem dL_law_682 : decode cL_law 682 = .ok (.invokevirtual 98, 3) := by decide +kernel
theorem dL_law_685 : decode cL_law 685 = .ok (.aload_n 2, 1) := by decide +kernel
theorem dL_law_686 : decode cL_law 686 = .ok (.aload_n 0, 1) := by decide +kernel
theorem dL_law_687 : decode cL_law 687 = .ok (.iload_n 3, 1) := by decide +kernel
theorem dL_law_688 : decode cL_law 688 = .ok (.iconst 1, 1) := by decide +kernel
theorem dL_law_689 : decode cL_law 689 = .ok (.iadd, 1) := by decide +kernel
theorem dL_law_690 : decode cL_law 690 = .ok (.iaload, 1) := by decide +kernel
theorem dL_law_691 : decode cL_law 691 = .ok (.invokevirtual 101, 3) := by decide +kernel
theorem dL_law_694 : decode cL_law 694 = .ok (.if_icmp .eq 28, 3) := by decide +kernel
theorem dL_law_697 : decode cL_law 697 = .ok (.iconst 0, 1) := by decide +kernel
theorem dL_law_698 : decode cL_law 698 = .ok (.ireturn, 1) := by decide +kernel
theorem dL_law_699 : decode cL_law 699 = .ok (.aload_n 1, 1) := by decide +kernel
theorem dL_law_700 : decode cL_law 700 = .ok (.aload_n 0, 1) := by decide +kernel
theorem dL_law_701 : decode cL_law 701 = .ok (.iload_n 3, 1) := by decide +kernel
theorem dL_law_702 : decode cL_law 702 = .ok (.iconst 1, 1) := by decide +kernel
theorem dL_law_703 : decode cL_law 703 = .ok (.iadd, 1) := by decide +kernel
theorem dL_law_704 : decode cL_law 704 = .ok (.iaload, 1) := by decide +kernel
theorem dL_law_705 : decode cL_law 705 = .ok (.invokevirtual 102, 3) := by decide +kernel
theorem dL_law_708 : decode cL_law 708 = .ok (.aload_n 2, 1) := by decide +kernel
theorem dL_law_709 : decode cL_law 709 = .ok (.aload_n 0, 1) := by decide +kernel
theorem dL_law_710 : decode cL_law 710 = .ok (.iload_n 3, 1) := by decide +kernel
theorem dL_law_711 : decode cL_law 711 = .ok (.iconst 1, 1) := by decide +kernel
theorem dL_law_712 : decode cL_law 712 = .ok (.iadd, 1) := by decide +kernel
theorem dL_law_713 : decode cL_law 713 = .ok (.iaload, 1) := by decide +kernel
theorem dL_law_714 : decode cL_law 714 = .ok (.invokevirtual 105, 3) := by decide +kernel
theorem dL_law_717 : decode cL_law 717 = .ok (.if_icmp .eq 5, 3) := by decide +kernel
theorem dL_law_720 : decode cL_law 720 = .ok (.iconst 0, 1) := by decide +kernel
theorem dL_law_721 : decode cL_law 721 = .ok (.ireturn, 1) := by decide +kernel
theorem dL_law_722 : decode cL_law 722 = .ok (.iinc 3 5, 3) := by decide +kernel
theorem dL_law_725 : decode cL_law 725 = .ok (.goto (-707), 3) := by decide +kernel
theorem dL_law_728 : decode cL_law 728 = .ok (.iconst 1, 1) := by decide +kernel
theorem dL_law_729 : decode cL_law 729 = .ok (.ireturn, 1) := by decide +kernel
end
section
theorem dX4_init_0 : decode cX4_init 0 = .ok (.aload_n 0, 1) := by decide +kernel
theorem dX4_init_1 : decode cX4_init 1 = .ok (.invokespecial 1, 3) := by decide +kernel
theorem dX4_init_4 : decode cX4_init 4 = .ok (.aload_n 0, 1) := by decide +kernel
theorem dX4_init_5 : decode cX4_init 5 = .ok (.bipush 127, 2) := by decide +kernel
theorem dX4_init_7 : decode cX4_init 7 = .ok (.newarray .int, 2) := by decide +kernel
theorem dX4_init_9 : decode cX4_init 9 = .ok (.putfield 7, 3) := by decide +kernel
theorem dX4_init_12 : decode cX4_init 12 = .ok (.aload_n 0, 1) := by decide +kernel
theorem dX4_init_13 : decode cX4_init 13 = .ok (.bipush 127, 2) := by decide +kernel
theorem dX4_init_15 : decode cX4_init 15 = .ok (.newarray .int, 2) := by decide +kernel
theorem dX4_init_17 : decode cX4_init 17 = .ok (.putfield 13, 3) := by decide +kernel
theorem dX4_init_20 : decode cX4_init 20 = .ok (.aload_n 0, 1) := by decide +kernel
theorem dX4_init_21 : decode cX4_init 21 = .ok (.bipush 127, 2) := by decide +kernel
theorem dX4_init_23 : decode cX4_init 23 = .ok (.newarray .int, 2) := by decide +kernel
theorem dX4_init_25 : decode cX4_init 25 = .ok (.putfield 16, 3) := by decide +kernel
theorem dX4_init_28 : decode cX4_init 28 = .ok (.aload_n 0, 1) := by decide +kernel
theorem dX4_init_29 : decode cX4_init 29 = .ok (.sipush 1016, 3) := by decide +kernel
theorem dX4_init_32 : decode cX4_init 32 = .ok (.newarray .int, 2) := by decide +kernel
theorem dX4_init_34 : decode cX4_init 34 = .ok (.putfield 19, 3) := by decide +kernel
theorem dX4_init_37 : decode cX4_init 37 = .ok (.aload_n 0, 1) := by decide +kernel
theorem dX4_init_38 : decode cX4_init 38 = .ok (.sipush 254, 3) := by decide +kernel
theorem dX4_init_41 : decode cX4_init 41 = .ok (.newarray .int, 2) := by decide +kernel
theorem dX4_init_43 : decode cX4_init 43 = .ok (.putfield 22, 3) := by decide +kernel
theorem dX4_init_46 : decode cX4_init 46 = .ok (.aload_n 0, 1) := by decide +kernel
theorem dX4_init_47 : decode cX4_init 47 = .ok (.iconst 2, 1) := by decide +kernel
theorem dX4_init_48 : decode cX4_init 48 = .ok (.newarray .boolean, 2) := by decide +kernel
theorem dX4_init_50 : decode cX4_init 50 = .ok (.putfield 25, 3) := by decide +kernel
theorem dX4_init_53 : decode cX4_init 53 = .ok (.aload_n 0, 1) := by decide +kernel
theorem dX4_init_54 : decode cX4_init 54 = .ok (.bipush 80, 2) := by decide +kernel
theorem dX4_init_56 : decode cX4_init 56 = .ok (.newarray .int, 2) := by decide +kernel
theorem dX4_init_58 : decode cX4_init 58 = .ok (.putfield 29, 3) := by decide +kernel
theorem dX4_init_61 : decode cX4_init 61 = .ok (.aload_n 0, 1) := by decide +kernel
theorem dX4_init_62 : decode cX4_init 62 = .ok (.bipush 6, 2) := by decide +kernel
theorem dX4_init_64 : decode cX4_init 64 = .ok (.newarray .int, 2) := by decide +kernel
theorem dX4_init_66 : decode cX4_init 66 = .ok (.putfield 32, 3) := by decide +kernel
theorem dX4_init_69 : decode cX4_init 69 = .ok (.aload_n 0, 1) := by decide +kernel
theorem dX4_init_70 : decode cX4_init 70 = .ok (.bipush 6, 2) := by decide +kernel
theorem dX4_init_72 : decode cX4_init 72 = .ok (.newarray .int, 2) := by decide +kernel
theorem dX4_init_74 : decode cX4_init 74 = .ok (.putfield 35, 3) := by decide +kernel
theorem dX4_init_77 : decode cX4_init 77 = .ok (.aload_n 0, 1) := by decide +kernel
theorem dX4_init_78 : decode cX4_init 78 = .ok (.invokevirtual 38, 3) := by decide +kernel
theorem dX4_init_81 : decode cX4_init 81 = .ok (.aload_n 0, 1) := by decide +kernel
theorem dX4_init_82 : decode cX4_init 82 = .ok (.getfield 13, 3) := by decide +kernel
theorem dX4_init_85 : decode cX4_init 85 = .ok (.invokestatic 41, 3) := by decide +kernel
theorem dX4_init_88 : decode cX4_init 88 = .ok (.aload_n 0, 1) := by decide +kernel
theorem dX4_init_89 : decode cX4_init 89 = .ok (.getfield 13, 3) := by decide +kernel
theorem dX4_init_92 : decode cX4_init 92 = .ok (.iconst 0, 1) := by decide +kernel
theorem dX4_init_93 : decode cX4_init 93 = .ok (.aload_n 0, 1) := by decide +kernel
theorem dX4_init_94 : decode cX4_init 94 = .ok (.getfield 7, 3) := by decide +kernel
theorem dX4_init_97 : decode cX4_init 97 = .ok (.iconst 0, 1) := by decide +kernel
theorem dX4_init_98 : decode cX4_init 98 = .ok (.invokestatic 45, 3) := by decide +kernel
theorem dX4_init_101 : decode cX4_init 101 = .ok (.return_, 1) := by decide +kernel
theorem dX4_in_0 : decode cX4_in 0 = .ok (.iload_n 0, 1) := by decide +kernel
theorem dX4_in_1 : decode cX4_in 1 = .ok (.iload_n 1, 1) := by decide +kernel
theorem dX4_in_2 : decode cX4_in 2 = .ok (.if_icmp .lt 12, 3) := by decide +kernel
theorem dX4_in_5 : decode cX4_in 5 = .ok (.iload_n 0, 1) := by decide +kernel
theorem dX4_in_6 : decode cX4_in 6 = .ok (.iload_n 2, 1) := by decide +kernel
theorem dX4_in_7 : decode cX4_in 7 = .ok (.if_icmp .gt 7, 3) := by decide +kernel
theorem dX4_in_10 : decode cX4_in 10 = .ok (.iconst 1, 1) := by decide +kernel
theorem dX4_in_11 : decode cX4_in 11 = .ok (.goto 4, 3) := by decide +kernel
theorem dX4_in_14 : decode cX4_in 14 = .ok (.iconst 0, 1) := by decide +kernel
theorem dX4_in_15 : decode cX4_in 15 = .ok (.ireturn, 1) := by decide +kernel
theorem dX4_copyState_0 : decode cX4_copyState 0 = .ok (.iconst 0, 1) := by decide +kernel
theorem dX4_copyState_1 : decode cX4_copyState 1 = .ok (.istore 4, 2) := by decide +kernel
theorem dX4_copyState_3 : decode cX4_copyState 3 = .ok (.iload 4, 2) := by decide +kernel
theorem dX4_copyState_5 : decode cX4_copyState 5 = .ok (.bipush 127, 2) := by decide +kernel
theorem dX4_copyState_7 : decode cX4_copyState 7 = .ok (.if_icmp .ge 21, 3) := by decide +kernel
theorem dX4_copyState_10 : decode cX4_copyState 10 = .ok (.aload_n 2, 1) := by decide +kernel
theorem dX4_copyState_11 : decode cX4_copyState 11 = .ok (.iload_n 3, 1) := by decide +kernel
theorem dX4_copyState_12 : decode cX4_copyState 12 = .ok (.iload 4, 2) := by decide +kernel
theorem dX4_copyState_14 : decode cX4_copyState 14 = .ok (.iadd, 1) := by decide +kernel
theorem dX4_copyState_15 : decode cX4_copyState 15 = .ok (.aload_n 0, 1) := by decide +kernel
theorem dX4_copyState_16 : decode cX4_copyState 16 = .ok (.iload_n 1, 1) := by decide +kernel
theorem dX4_copyState_17 : decode cX4_copyState 17 = .ok (.iload 4, 2) := by decide +kernel
theorem dX4_copyState_19 : decode cX4_copyState 19 = .ok (.iadd, 1) := by decide +kernel
theorem dX4_copyState_20 : decode cX4_copyState 20 = .ok (.iaload, 1) := by decide +kernel
theorem dX4_copyState_21 : decode cX4_copyState 21 = .ok (.iastore, 1) := by decide +kernel
theorem dX4_copyState_22 : decode cX4_copyState 22 = .ok (.iinc 4 1, 3) := by decide +kernel
theorem dX4_copyState_25 : decode cX4_copyState 25 = .ok (.goto (-22), 3) := by decide +kernel
theorem dX4_copyState_28 : decode cX4_copyState 28 = .ok (.return_, 1) := by decide +kernel
theorem dX4_save_0 : decode cX4_save 0 = .ok (.aload_n 0, 1) := by decide +kernel
theorem dX4_save_1 : decode cX4_save 1 = .ok (.getfield 49, 3) := by decide +kernel
theorem dX4_save_4 : decode cX4_save 4 = .ok (.bipush 8, 2) := by decide +kernel
theorem dX4_save_6 : decode cX4_save 6 = .ok (.if_icmp .ne 43, 3) := by decide +kernel
theorem dX4_save_9 : decode cX4_save 9 = .ok (.iconst 0, 1) := by decide +kernel
theorem dX4_save_10 : decode cX4_save 10 = .ok (.istore_n 1, 1) := by decide +kernel
theorem dX4_save_11 : decode cX4_save 11 = .ok (.iload_n 1, 1) := by decide +kernel
theorem dX4_save_12 : decode cX4_save 12 = .ok (.sipush 889, 3) := by decide +kernel
theorem dX4_save_15 : decode cX4_save 15 = .ok (.if_icmp .ge 24, 3) := by decide +kernel
theorem dX4_save_18 : decode cX4_save 18 = .ok (.aload_n 0, 1) := by decide +kernel
theorem dX4_save_19 : decode cX4_save 19 = .ok (.getfield 19, 3) := by decide +kernel
theorem dX4_save_22 : decode cX4_save 22 = .ok (.iload_n 1, 1) := by decide +kernel
theorem dX4_save_23 : decode cX4_save 23 = .ok (.aload_n 0, 1) := by decide +kernel
theorem dX4_save_24 : decode cX4_save 24 = .ok (.getfield 19, 3) := by decide +kernel
theorem dX4_save_27 : decode cX4_save 27 = .ok (.iload_n 1, 1) := by decide +kernel
theorem dX4_save_28 : decode cX4_save 28 = .ok (.bipush 127, 2) := by decide +kernel
theorem dX4_save_30 : decode cX4_save 30 = .ok (.iadd, 1) := by decide +kernel
theorem dX4_save_31 : decode cX4_save 31 = .ok (.iaload, 1) := by decide +kernel
theorem dX4_save_32 : decode cX4_save 32 = .ok (.iastore, 1) := by decide +kernel
theorem dX4_save_33 : decode cX4_save 33 = .ok (.iinc 1 1, 3) := by decide +kernel
theorem dX4_save_36 : decode cX4_save 36 = .ok (.goto (-25), 3) := by decide +kernel
theorem dX4_save_39 : decode cX4_save 39 = .ok (.aload_n 0, 1) := by decide +kernel
theorem dX4_save_40 : decode cX4_save 40 = .ok (.dup, 1) := by decide +kernel
theorem dX4_save_41 : decode cX4_save 41 = .ok (.getfield 49, 3) := by decide +kernel
theorem dX4_save_44 : decode cX4_save 44 = .ok (.iconst 1, 1) := by decide +kernel
theorem dX4_save_45 : decode cX4_save 45 = .ok (.isub, 1) := by decide +kernel
theorem dX4_save_46 : decode cX4_save 46 = .ok (.putfield 49, 3) := by decide +kernel
theorem dX4_save_49 : decode cX4_save 49 = .ok (.aload_n 0, 1) := by decide +kernel
theorem dX4_save_50 : decode cX4_save 50 = .ok (.getfield 7, 3) := by decide +kernel
theorem dX4_save_53 : decode cX4_save 53 = .ok (.iconst 0, 1) := by decide +kernel
theorem dX4_save_54 : decode cX4_save 54 = .ok (.aload_n 0, 1) := by decide +kernel
theorem dX4_save_55 : decode cX4_save 55 = .ok (.getfield 19, 3) := by decide +kernel
theorem dX4_save_58 : decode cX4_save 58 = .ok (.bipush 127, 2) := by decide +kernel
theorem dX4_save_60 : decode cX4_save 60 = .ok (.aload_n 0, 1) := by decide +kernel
theorem dX4_save_61 : decode cX4_save 61 = .ok (.getfield 49, 3) := by decide +kernel
theorem dX4_save_64 : decode cX4_save 64 = .ok (.imul, 1) := by decide +kernel
theorem dX4_save_65 : decode cX4_save 65 = .ok (.invokestatic 45, 3) := by decide +kernel
theorem dX4_save_68 : decode cX4_save 68 = .ok (.aload_n 0, 1) := by decide +kernel
theorem dX4_save_69 : decode cX4_save 69 = .ok (.dup, 1) := by decide +kernel
theorem dX4_save_70 : decode cX4_save 70 = .ok (.getfield 49, 3) := by decide +kernel
theorem dX4_save_73 : decode cX4_save 73 = .ok (.iconst 1, 1) := by decide +kernel
theorem dX4_save_74 : decode cX4_save 74 = .ok (.iadd, 1) := by decide +kernel
theorem dX4_save_75 : decode cX4_save 75 = .ok (.putfield 49, 3) := by decide +kernel
theorem dX4_save_78 : decode cX4_save 78 = .ok (.return_, 1) := by decide +kernel
theorem dX4_beginRead_0 : decode cX4_beginRead 0 = .ok (.iconst 0, 1) := by decide +kernel
theorem dX4_beginRead_1 : decode cX4_beginRead 1 = .ok (.istore_n 1, 1) := by decide +kernel
theorem dX4_beginRead_2 : decode cX4_beginRead 2 = .ok (.iload_n 1, 1) := by decide +kernel
theorem dX4_beginRead_3 : decode cX4_beginRead 3 = .ok (.bipush 127, 2) := by decide +kernel
theorem dX4_beginRead_5 : decode cX4_beginRead 5 = .ok (.if_icmp .ge 16, 3) := by decide +kernel
theorem dX4_beginRead_8 : decode cX4_beginRead 8 = .ok (.aload_n 0, 1) := by decide +kernel
theorem dX4_beginRead_9 : decode cX4_beginRead 9 = .ok (.getfield 13, 3) := by decide +kernel
theorem dX4_beginRead_12 : decode cX4_beginRead 12 = .ok (.iload_n 1, 1) := by decide +kernel
theorem dX4_beginRead_13 : decode cX4_beginRead 13 = .ok (.iconst 0, 1) := by decide +kernel
theorem dX4_beginRead_14 : decode cX4_beginRead 14 = .ok (.iastore, 1) := by decide +kernel
theorem dX4_beginRead_15 : decode cX4_beginRead 15 = .ok (.iinc 1 1, 3) := by decide +kernel
theorem dX4_beginRead_18 : decode cX4_beginRead 18 = .ok (.goto (-16), 3) := by decide +kernel
theorem dX4_beginRead_21 : decode cX4_beginRead 21 = .ok (.aload_n 0, 1) := by decide +kernel
theorem dX4_beginRead_22 : decode cX4_beginRead 22 = .ok (.getfield 13, 3) := by decide +kernel
theorem dX4_beginRead_25 : decode cX4_beginRead 25 = .ok (.iconst 0, 1) := by decide +kernel
theorem dX4_beginRead_26 : decode cX4_beginRead 26 = .ok (.iconst 3, 1) := by decide +kernel
theorem dX4_beginRead_27 : decode cX4_beginRead 27 = .ok (.iastore, 1) := by decide +kernel
theorem dX4_beginRead_28 : decode cX4_beginRead 28 = .ok (.iconst 0, 1) := by decide +kernel
theorem dX4_beginRead_29 : decode cX4_beginRead 29 = .ok (.istore_n 1, 1) := by decide +kernel
theorem dX4_beginRead_30 : decode cX4_beginRead 30 = .ok (.iload_n 1, 1) := by decide +kernel
theorem dX4_beginRead_31 : decode cX4_beginRead 31 = .ok (.iconst 4, 1) := by decide +kernel
theorem dX4_beginRead_32 : decode cX4_beginRead 32 = .ok (.if_icmp .ge 49, 3) := by decide +kernel
theorem dX4_beginRead_35 : decode cX4_beginRead 35 = .ok (.aload_n 0, 1) := by decide +kernel
theorem dX4_beginRead_36 : decode cX4_beginRead 36 = .ok (.getfield 13, 3) := by decide +kernel
theorem dX4_beginRead_39 : decode cX4_beginRead 39 = .ok (.iconst 2, 1) := by decide +kernel
theorem dX4_beginRead_40 : decode cX4_beginRead 40 = .ok (.iconst 3, 1) := by decide +kernel
theorem dX4_beginRead_41 : decode cX4_beginRead 41 = .ok (.iload_n 1, 1) := by decide +kernel
theorem dX4_beginRead_42 : decode cX4_beginRead 42 = .ok (.imul, 1) := by decide +kernel
theorem dX4_beginRead_43 : decode cX4_beginRead 43 = .ok (.iadd, 1) := by decide +kernel
theorem dX4_beginRead_44 : decode cX4_beginRead 44 = .ok (.bipush 99, 2) := by decide +kernel
theorem dX4_beginRead_46 : decode cX4_beginRead 46 = .ok (.iastore, 1) := by decide +kernel
theorem dX4_beginRead_47 : decode cX4_beginRead 47 = .ok (.aload_n 0, 1) := by decide +kernel
theorem dX4_beginRead_48 : decode cX4_beginRead 48 = .ok (.getfield 13, 3) := by decide +kernel
theorem dX4_beginRead_51 : decode cX4_beginRead 51 = .ok (.iconst 2, 1) := by decide +kernel
theorem dX4_beginRead_52 : decode cX4_beginRead 52 = .ok (.iconst 3, 1) := by decide +kernel
theorem dX4_beginRead_53 : decode cX4_beginRead 53 = .ok (.iload_n 1, 1) := by decide +kernel
theorem dX4_beginRead_54 : decode cX4_beginRead 54 = .ok (.imul, 1) := by decide +kernel
theorem dX4_beginRead_55 : decode cX4_beginRead 55 = .ok (.iadd, 1) := by decide +kernel
theorem dX4_beginRead_56 : decode cX4_beginRead 56 = .ok (.iconst 1, 1) := by decide +kernel
theorem dX4_beginRead_57 : decode cX4_beginRead 57 = .ok (.iadd, 1) := by decide +kernel
theorem dX4_beginRead_58 : decode cX4_beginRead 58 = .ok (.bipush 9, 2) := by decide +kernel
theorem dX4_beginRead_60 : decode cX4_beginRead 60 = .ok (.iastore, 1) := by decide +kernel
theorem dX4_beginRead_61 : decode cX4_beginRead 61 = .ok (.aload_n 0, 1) := by decide +kernel
theorem dX4_beginRead_62 : decode cX4_beginRead 62 = .ok (.getfield 13, 3) := by decide +kernel
theorem dX4_beginRead_65 : decode cX4_beginRead 65 = .ok (.iconst 2, 1) := by decide +kernel
theorem dX4_beginRead_66 : decode cX4_beginRead 66 = .ok (.iconst 3, 1) := by decide +kernel
theorem dX4_beginRead_67 : decode cX4_beginRead 67 = .ok (.iload_n 1, 1) := by decide +kernel
theorem dX4_beginRead_68 : decode cX4_beginRead 68 = .ok (.imul, 1) := by decide +kernel
theorem dX4_beginRead_69 : decode cX4_beginRead 69 = .ok (.iadd, 1) := by decide +kernel
theorem dX4_beginRead_70 : decode cX4_beginRead 70 = .ok (.iconst 2, 1) := by decide +kernel
theorem dX4_beginRead_71 : decode cX4_beginRead 71 = .ok (.iadd, 1) := by decide +kernel
theorem dX4_beginRead_72 : decode cX4_beginRead 72 = .ok (.bipush 99, 2) := by decide +kernel
theorem dX4_beginRead_74 : decode cX4_beginRead 74 = .ok (.iastore, 1) := by decide +kernel
theorem dX4_beginRead_75 : decode cX4_beginRead 75 = .ok (.iinc 1 1, 3) := by decide +kernel
theorem dX4_beginRead_78 : decode cX4_beginRead 78 = .ok (.goto (-48), 3) := by decide +kernel
theorem dX4_beginRead_81 : decode cX4_beginRead 81 = .ok (.return_, 1) := by decide +kernel
theorem dX4_setBudgetsFor_0 : decode cX4_setBudgetsFor 0 = .ok (.aload_n 0, 1) := by decide +kernel
theorem dX4_setBudgetsFor_1 : decode cX4_setBudgetsFor 1 = .ok (.iconst 0, 1) := by decide +kernel
theorem dX4_setBudgetsFor_2 : decode cX4_setBudgetsFor 2 = .ok (.iaload, 1) := by decide +kernel
theorem dX4_setBudgetsFor_3 : decode cX4_setBudgetsFor 3 = .ok (.iconst 1, 1) := by decide +kernel
theorem dX4_setBudgetsFor_4 : decode cX4_setBudgetsFor 4 = .ok (.isub, 1) := by decide +kernel
theorem dX4_setBudgetsFor_5 : decode cX4_setBudgetsFor 5 = .ok (.istore_n 2, 1) := by decide +kernel
theorem dX4_setBudgetsFor_6 : decode cX4_setBudgetsFor 6 = .ok (.aload_n 0, 1) := by decide +kernel
theorem dX4_setBudgetsFor_7 : decode cX4_setBudgetsFor 7 = .ok (.iconst 2, 1) := by decide +kernel
theorem dX4_setBudgetsFor_8 : decode cX4_setBudgetsFor 8 = .ok (.iconst 3, 1) := by decide +kernel
theorem dX4_setBudgetsFor_9 : decode cX4_setBudgetsFor 9 = .ok (.iload_n 1, 1) := by decide +kernel
theorem dX4_setBudgetsFor_10 : decode cX4_setBudgetsFor 10 = .ok (.imul, 1) := by decide +kernel
theorem dX4_setBudgetsFor_11 : decode cX4_setBudgetsFor 11 = .ok (.iadd, 1) := by decide +kernel
theorem dX4_setBudgetsFor_12 : decode cX4_setBudgetsFor 12 = .ok (.iaload, 1) := by decide +kernel
theorem dX4_setBudgetsFor_13 : decode cX4_setBudgetsFor 13 = .ok (.istore_n 3, 1) := by decide +kernel
theorem dX4_setBudgetsFor_14 : decode cX4_setBudgetsFor 14 = .ok (.iload_n 3, 1) := by decide +kernel
theorem dX4_setBudgetsFor_15 : decode cX4_setBudgetsFor 15 = .ok (.iload_n 2, 1) := by decide +kernel
theorem dX4_setBudgetsFor_16 : decode cX4_setBudgetsFor 16 = .ok (.irem, 1) := by decide +kernel
theorem dX4_setBudgetsFor_17 : decode cX4_setBudgetsFor 17 = .ok (.istore 4, 2) := by decide +kernel
theorem dX4_setBudgetsFor_19 : decode cX4_setBudgetsFor 19 = .ok (.iconst 0, 1) := by decide +kernel
theorem dX4_setBudgetsFor_20 : decode cX4_setBudgetsFor 20 = .ok (.istore 5, 2) := by decide +kernel
theorem dX4_setBudgetsFor_22 : decode cX4_setBudgetsFor 22 = .ok (.iload 5, 2) := by decide +kernel
theorem dX4_setBudgetsFor_24 : decode cX4_setBudgetsFor 24 = .ok (.aload_n 0, 1) := by decide +kernel
theorem dX4_setBudgetsFor_25 : decode cX4_setBudgetsFor 25 = .ok (.iconst 0, 1) := by decide +kernel
theorem dX4_setBudgetsFor_26 : decode cX4_setBudgetsFor 26 = .ok (.iaload, 1) := by decide +kernel
theorem dX4_setBudgetsFor_27 : decode cX4_setBudgetsFor 27 = .ok (.if_icmp .ge 43, 3) := by decide +kernel
theorem dX4_setBudgetsFor_30 : decode cX4_setBudgetsFor 30 = .ok (.iload 5, 2) := by decide +kernel
theorem dX4_setBudgetsFor_32 : decode cX4_setBudgetsFor 32 = .ok (.iload_n 1, 1) := by decide +kernel
theorem dX4_setBudgetsFor_33 : decode cX4_setBudgetsFor 33 = .ok (.if_icmp .eq 31, 3) := by decide +kernel
theorem dX4_setBudgetsFor_36 : decode cX4_setBudgetsFor 36 = .ok (.aload_n 0, 1) := by decide +kernel
theorem dX4_setBudgetsFor_37 : decode cX4_setBudgetsFor 37 = .ok (.bipush 111, 2) := by decide +kernel
theorem dX4_setBudgetsFor_39 : decode cX4_setBudgetsFor 39 = .ok (.iconst 4, 1) := by decide +kernel
theorem dX4_setBudgetsFor_40 : decode cX4_setBudgetsFor 40 = .ok (.iload 5, 2) := by decide +kernel
theorem dX4_setBudgetsFor_42 : decode cX4_setBudgetsFor 42 = .ok (.imul, 1) := by decide +kernel
theorem dX4_setBudgetsFor_43 : decode cX4_setBudgetsFor 43 = .ok (.iadd, 1) := by decide +kernel
theorem dX4_setBudgetsFor_44 : decode cX4_setBudgetsFor 44 = .ok (.iload_n 1, 1) := by decide +kernel
theorem dX4_setBudgetsFor_45 : decode cX4_setBudgetsFor 45 = .ok (.iadd, 1) := by decide +kernel
theorem dX4_setBudgetsFor_46 : decode cX4_setBudgetsFor 46 = .ok (.iload_n 3, 1) := by decide +kernel
theorem dX4_setBudgetsFor_47 : decode cX4_setBudgetsFor 47 = .ok (.iload_n 2, 1) := by decide +kernel
theorem dX4_setBudgetsFor_48 : decode cX4_setBudgetsFor 48 = .ok (.idiv, 1) := by decide +kernel
theorem dX4_setBudgetsFor_49 : decode cX4_setBudgetsFor 49 = .ok (.iload 4, 2) := by decide +kernel
theorem dX4_setBudgetsFor_51 : decode cX4_setBudgetsFor 51 = .ok (.ifCond .le 7, 3) := by decide +kernel
theorem dX4_setBudgetsFor_54 : decode cX4_setBudgetsFor 54 = .ok (.iconst 1, 1) := by decide +kernel
theorem dX4_setBudgetsFor_55 : decode cX4_setBudgetsFor 55 = .ok (.goto 4, 3) := by decide +kernel
theorem dX4_setBudgetsFor_58 : decode cX4_setBudgetsFor 58 = .ok (.iconst 0, 1) := by decide +kernel
theorem dX4_setBudgetsFor_59 : decode cX4_setBudgetsFor 59 = .ok (.iadd, 1) := by decide +kernel
theorem dX4_setBudgetsFor_60 : decode cX4_setBudgetsFor 60 = .ok (.iastore, 1) := by decide +kernel
theorem dX4_setBudgetsFor_61 : decode cX4_setBudgetsFor 61 = .ok (.iinc 4 (-1), 3) := by decide +kernel
theorem dX4_setBudgetsFor_64 : decode cX4_setBudgetsFor 64 = .ok (.iinc 5 1, 3) := by decide +kernel
theorem dX4_setBudgetsFor_67 : decode cX4_setBudgetsFor 67 = .ok (.goto (-45), 3) := by decide +kernel
theorem dX4_setBudgetsFor_70 : decode cX4_setBudgetsFor 70 = .ok (.return_, 1) := by decide +kernel
theorem dX4_setBudgets_0 : decode cX4_setBudgets 0 = .ok (.iconst 0, 1) := by decide +kernel
theorem dX4_setBudgets_1 : decode cX4_setBudgets 1 = .ok (.istore_n 1, 1) := by decide +kernel
theorem dX4_setBudgets_2 : decode cX4_setBudgets 2 = .ok (.iload_n 1, 1) := by decide +kernel
theorem dX4_setBudgets_3 : decode cX4_setBudgets 3 = .ok (.aload_n 0, 1) := by decide +kernel
theorem dX4_setBudgets_4 : decode cX4_setBudgets 4 = .ok (.iconst 0, 1) := by decide +kernel
theorem dX4_setBudgets_5 : decode cX4_setBudgets 5 = .ok (.iaload, 1) := by decide +kernel
theorem dX4_setBudgets_6 : decode cX4_setBudgets 6 = .ok (.if_icmp .ge 14, 3) := by decide +kernel
theorem dX4_setBudgets_9 : decode cX4_setBudgets 9 = .ok (.aload_n 0, 1) := by decide +kernel
theorem dX4_setBudgets_10 : decode cX4_setBudgets 10 = .ok (.iload_n 1, 1) := by decide +kernel
theorem dX4_setBudgets_11 : decode cX4_setBudgets 11 = .ok (.invokestatic 53, 3) := by decide +kernel
theorem dX4_setBudgets_14 : decode cX4_setBudgets 14 = .ok (.iinc 1 1, 3) := by decide +kernel
theorem dX4_setBudgets_17 : decode cX4_setBudgets 17 = .ok (.goto (-15), 3) := by decide +kernel
theorem dX4_setBudgets_20 : decode cX4_setBudgets 20 = .ok (.return_, 1) := by decide +kernel
theorem dX4_isLetter_0 : decode cX4_isLetter 0 = .ok (.aload_n 0, 1) := by decide +kernel
theorem dX4_isLetter_1 : decode cX4_isLetter 1 = .ok (.getfield 57, 3) := by decide +kernel
theorem dX4_isLetter_4 : decode cX4_isLetter 4 = .ok (.aload_n 0, 1) := by decide +kernel
theorem dX4_isLetter_5 : decode cX4_isLetter 5 = .ok (.getfield 60, 3) := by decide +kernel
theorem dX4_isLetter_8 : decode cX4_isLetter 8 = .ok (.if_icmp .ge 26, 3) := by decide +kernel
theorem dX4_isLetter_11 : decode cX4_isLetter 11 = .ok (.aload_n 0, 1) := by decide +kernel
theorem dX4_isLetter_12 : decode cX4_isLetter 12 = .ok (.getfield 29, 3) := by decide +kernel
theorem dX4_isLetter_15 : decode cX4_isLetter 15 = .ok (.aload_n 0, 1) := by decide +kernel
theorem dX4_isLetter_16 : decode cX4_isLetter 16 = .ok (.getfield 57, 3) := by decide +kernel
theorem dX4_isLetter_19 : decode cX4_isLetter 19 = .ok (.iaload, 1) := by decide +kernel
theorem dX4_isLetter_20 : decode cX4_isLetter 20 = .ok (.bipush 97, 2) := by decide +kernel
theorem dX4_isLetter_22 : decode cX4_isLetter 22 = .ok (.bipush 122, 2) := by decide +kernel
theorem dX4_isLetter_24 : decode cX4_isLetter 24 = .ok (.invokestatic 63, 3) := by decide +kernel
theorem dX4_isLetter_27 : decode cX4_isLetter 27 = .ok (.ifCond .eq 7, 3) := by decide +kernel
theorem dX4_isLetter_30 : decode cX4_isLetter 30 = .ok (.iconst 1, 1) := by decide +kernel
theorem dX4_isLetter_31 : decode cX4_isLetter 31 = .ok (.goto 4, 3) := by decide +kernel
theorem dX4_isLetter_34 : decode cX4_isLetter 34 = .ok (.iconst 0, 1) := by decide +kernel
theorem dX4_isLetter_35 : decode cX4_isLetter 35 = .ok (.ireturn, 1) := by decide +kernel
theorem dX4_isDigit_0 : decode cX4_isDigit 0 = .ok (.aload_n 0, 1) := by decide +kernel
theorem dX4_isDigit_1 : decode cX4_isDigit 1 = .ok (.getfield 57, 3) := by decide +kernel
theorem dX4_isDigit_4 : decode cX4_isDigit 4 = .ok (.aload_n 0, 1) := by decide +kernel
theorem dX4_isDigit_5 : decode cX4_isDigit 5 = .ok (.getfield 60, 3) := by decide +kernel
theorem dX4_isDigit_8 : decode cX4_isDigit 8 = .ok (.if_icmp .ge 26, 3) := by decide +kernel
theorem dX4_isDigit_11 : decode cX4_isDigit 11 = .ok (.aload_n 0, 1) := by decide +kernel
theorem dX4_isDigit_12 : decode cX4_isDigit 12 = .ok (.getfield 29, 3) := by decide +kernel
theorem dX4_isDigit_15 : decode cX4_isDigit 15 = .ok (.aload_n 0, 1) := by decide +kernel
theorem dX4_isDigit_16 : decode cX4_isDigit 16 = .ok (.getfield 57, 3) := by decide +kernel
theorem dX4_isDigit_19 : decode cX4_isDigit 19 = .ok (.iaload, 1) := by decide +kernel
theorem dX4_isDigit_20 : decode cX4_isDigit 20 = .ok (.bipush 48, 2) := by decide +kernel
theorem dX4_isDigit_22 : decode cX4_isDigit 22 = .ok (.bipush 57, 2) := by decide +kernel
theorem dX4_isDigit_24 : decode cX4_isDigit 24 = .ok (.invokestatic 63, 3) := by decide +kernel
theorem dX4_isDigit_27 : decode cX4_isDigit 27 = .ok (.ifCond .eq 7, 3) := by decide +kernel
theorem dX4_isDigit_30 : decode cX4_isDigit 30 = .ok (.iconst 1, 1) := by decide +kernel
theorem dX4_isDigit_31 : decode cX4_isDigit 31 = .ok (.goto 4, 3) := by decide +kernel
theorem dX4_isDigit_34 : decode cX4_isDigit 34 = .ok (.iconst 0, 1) := by decide +kernel
theorem dX4_isDigit_35 : decode cX4_isDigit 35 = .ok (.ireturn, 1) := by decide +kernel
theorem dX4_wordToken_0 : decode cX4_wordToken 0 = .ok (.lconst 0, 1) := by decide +kernel
theorem dX4_wordToken_1 : decode cX4_wordToken 1 = .ok (.lstore_n 1, 1) := by decide +kernel
theorem dX4_wordToken_2 : decode cX4_wordToken 2 = .ok (.aload_n 0, 1) := by decide +kernel
theorem dX4_wordToken_3 : decode cX4_wordToken 3 = .ok (.getfield 57, 3) := by decide +kernel
theorem dX4_wordToken_6 : decode cX4_wordToken 6 = .ok (.iconst 1, 1) := by decide +kernel
theorem dX4_wordToken_7 : decode cX4_wordToken 7 = .ok (.isub, 1) := by decide +kernel
theorem dX4_wordToken_8 : decode cX4_wordToken 8 = .ok (.istore_n 3, 1) := by decide +kernel
theorem dX4_wordToken_9 : decode cX4_wordToken 9 = .ok (.iload_n 3, 1) := by decide +kernel
theorem dX4_wordToken_10 : decode cX4_wordToken 10 = .ok (.aload_n 0, 1) := by decide +kernel
theorem dX4_wordToken_11 : decode cX4_wordToken 11 = .ok (.getfield 67, 3) := by decide +kernel
theorem dX4_wordToken_14 : decode cX4_wordToken 14 = .ok (.if_icmp .lt 43, 3) := by decide +kernel
theorem dX4_wordToken_17 : decode cX4_wordToken 17 = .ok (.aload_n 0, 1) := by decide +kernel
theorem dX4_wordToken_18 : decode cX4_wordToken 18 = .ok (.getfield 57, 3) := by decide +kernel
theorem dX4_wordToken_21 : decode cX4_wordToken 21 = .ok (.aload_n 0, 1) := by decide +kernel
theorem dX4_wordToken_22 : decode cX4_wordToken 22 = .ok (.getfield 67, 3) := by decide +kernel
theorem dX4_wordToken_25 : decode cX4_wordToken 25 = .ok (.isub, 1) := by decide +kernel
theorem dX4_wordToken_26 : decode cX4_wordToken 26 = .ok (.bipush 9, 2) := by decide +kernel
theorem dX4_wordToken_28 : decode cX4_wordToken 28 = .ok (.if_icmp .ge 29, 3) := by decide +kernel
theorem dX4_wordToken_31 : decode cX4_wordToken 31 = .ok (.ldc2_w 70, 3) := by decide +kernel
theorem dX4_wordToken_34 : decode cX4_wordToken 34 = .ok (.lload_n 1, 1) := by decide +kernel
theorem dX4_wordToken_35 : decode cX4_wordToken 35 = .ok (.lmul, 1) := by decide +kernel
theorem dX4_wordToken_36 : decode cX4_wordToken 36 = .ok (.aload_n 0, 1) := by decide +kernel
theorem dX4_wordToken_37 : decode cX4_wordToken 37 = .ok (.getfield 29, 3) := by decide +kernel
theorem dX4_wordToken_40 : decode cX4_wordToken 40 = .ok (.iload_n 3, 1) := by decide +kernel
theorem dX4_wordToken_41 : decode cX4_wordToken 41 = .ok (.iaload, 1) := by decide +kernel
theorem dX4_wordToken_42 : decode cX4_wordToken 42 = .ok (.i2l, 1) := by decide +kernel
theorem dX4_wordToken_43 : decode cX4_wordToken 43 = .ok (.ladd, 1) := by decide +kernel
theorem dX4_wordToken_44 : decode cX4_wordToken 44 = .ok (.ldc2_w 72, 3) := by decide +kernel
theorem dX4_wordToken_47 : decode cX4_wordToken 47 = .ok (.lsub, 1) := by decide +kernel
theorem dX4_wordToken_48 : decode cX4_wordToken 48 = .ok (.lconst 1, 1) := by decide +kernel
theorem dX4_wordToken_49 : decode cX4_wordToken 49 = .ok (.ladd, 1) := by decide +kernel
theorem dX4_wordToken_50 : decode cX4_wordToken 50 = .ok (.lstore_n 1, 1) := by decide +kernel
theorem dX4_wordToken_51 : decode cX4_wordToken 51 = .ok (.iinc 3 (-1), 3) := by decide +kernel
theorem dX4_wordToken_54 : decode cX4_wordToken 54 = .ok (.goto (-45), 3) := by decide +kernel
theorem dX4_wordToken_57 : decode cX4_wordToken 57 = .ok (.lload_n 1, 1) := by decide +kernel
theorem dX4_wordToken_58 : decode cX4_wordToken 58 = .ok (.ldc2_w 74, 3) := by decide +kernel
theorem dX4_wordToken_61 : decode cX4_wordToken 61 = .ok (.lcmp, 1) := by decide +kernel
theorem dX4_wordToken_62 : decode cX4_wordToken 62 = .ok (.ifCond .ne 9, 3) := by decide +kernel
theorem dX4_wordToken_65 : decode cX4_wordToken 65 = .ok (.sipush 1003, 3) := by decide +kernel
theorem dX4_wordToken_68 : decode cX4_wordToken 68 = .ok (.goto 20, 3) := by decide +kernel
theorem dX4_wordToken_71 : decode cX4_wordToken 71 = .ok (.lload_n 1, 1) := by decide +kernel
theorem dX4_wordToken_72 : decode cX4_wordToken 72 = .ok (.ldc2_w 76, 3) := by decide +kernel
theorem dX4_wordToken_75 : decode cX4_wordToken 75 = .ok (.lcmp, 1) := by decide +kernel
theorem dX4_wordToken_76 : decode cX4_wordToken 76 = .ok (.ifCond .ne 9, 3) := by decide +kernel
theorem dX4_wordToken_79 : decode cX4_wordToken 79 = .ok (.sipush 1004, 3) := by decide +kernel
theorem dX4_wordToken_82 : decode cX4_wordToken 82 = .ok (.goto 6, 3) := by decide +kernel
theorem dX4_wordToken_85 : decode cX4_wordToken 85 = .ok (.sipush 1001, 3) := by decide +kernel
theorem dX4_wordToken_88 : decode cX4_wordToken 88 = .ok (.ireturn, 1) := by decide +kernel
theorem dX4_next_0 : decode cX4_next 0 = .ok (.aload_n 0, 1) := by decide +kernel
theorem dX4_next_1 : decode cX4_next 1 = .ok (.getfield 57, 3) := by decide +kernel
theorem dX4_next_4 : decode cX4_next 4 = .ok (.aload_n 0, 1) := by decide +kernel
theorem dX4_next_5 : decode cX4_next 5 = .ok (.getfield 60, 3) := by decide +kernel
theorem dX4_next_8 : decode cX4_next 8 = .ok (.if_icmp .ge 30, 3) := by decide +kernel
theorem dX4_next_11 : decode cX4_next 11 = .ok (.aload_n 0, 1) := by decide +kernel
theorem dX4_next_12 : decode cX4_next 12 = .ok (.getfield 29, 3) := by decide +kernel
theorem dX4_next_15 : decode cX4_next 15 = .ok (.aload_n 0, 1) := by decide +kernel
theorem dX4_next_16 : decode cX4_next 16 = .ok (.getfield 57, 3) := by decide +kernel
theorem dX4_next_19 : decode cX4_next 19 = .ok (.iaload, 1) := by decide +kernel
theorem dX4_next_20 : decode cX4_next 20 = .ok (.bipush 32, 2) := by decide +kernel
theorem dX4_next_22 : decode cX4_next 22 = .ok (.if_icmp .ne 16, 3) := by decide +kernel
theorem dX4_next_25 : decode cX4_next 25 = .ok (.aload_n 0, 1) := by decide +kernel
theorem dX4_next_26 : decode cX4_next 26 = .ok (.dup, 1) := by decide +kernel
theorem dX4_next_27 : decode cX4_next 27 = .ok (.getfield 57, 3) := by decide +kernel
theorem dX4_next_30 : decode cX4_next 30 = .ok (.iconst 1, 1) := by decide +kernel
theorem dX4_next_31 : decode cX4_next 31 = .ok (.iadd, 1) := by decide +kernel
theorem dX4_next_32 : decode cX4_next 32 = .ok (.putfield 57, 3) := by decide +kernel
theorem dX4_next_35 : decode cX4_next 35 = .ok (.goto (-35), 3) := by decide +kernel
theorem dX4_next_38 : decode cX4_next 38 = .ok (.aload_n 0, 1) := by decide +kernel
theorem dX4_next_39 : decode cX4_next 39 = .ok (.aload_n 0, 1) := by decide +kernel
theorem dX4_next_40 : decode cX4_next 40 = .ok (.getfield 57, 3) := by decide +kernel
theorem dX4_next_43 : decode cX4_next 43 = .ok (.putfield 67, 3) := by decide +kernel
theorem dX4_next_46 : decode cX4_next 46 = .ok (.aload_n 0, 1) := by decide +kernel
theorem dX4_next_47 : decode cX4_next 47 = .ok (.getfield 57, 3) := by decide +kernel
theorem dX4_next_50 : decode cX4_next 50 = .ok (.aload_n 0, 1) := by decide +kernel
theorem dX4_next_51 : decode cX4_next 51 = .ok (.getfield 60, 3) := by decide +kernel
theorem dX4_next_54 : decode cX4_next 54 = .ok (.if_icmp .ne 13, 3) := by decide +kernel
theorem dX4_next_57 : decode cX4_next 57 = .ok (.aload_n 0, 1) := by decide +kernel
theorem dX4_next_58 : decode cX4_next 58 = .ok (.sipush 1000, 3) := by decide +kernel
theorem dX4_next_61 : decode cX4_next 61 = .ok (.putfield 78, 3) := by decide +kernel
theorem dX4_next_64 : decode cX4_next 64 = .ok (.goto 205, 3) := by decide +kernel
theorem dX4_next_67 : decode cX4_next 67 = .ok (.aload_n 0, 1) := by decide +kernel
theorem dX4_next_68 : decode cX4_next 68 = .ok (.invokevirtual 81, 3) := by decide +kernel
theorem dX4_next_71 : decode cX4_next 71 = .ok (.ifCond .eq 34, 3) := by decide +kernel
theorem dX4_next_74 : decode cX4_next 74 = .ok (.aload_n 0, 1) := by decide +kernel
theorem dX4_next_75 : decode cX4_next 75 = .ok (.invokevirtual 81, 3) := by decide +kernel
theorem dX4_next_78 : decode cX4_next 78 = .ok (.ifCond .eq 16, 3) := by decide +kernel
theorem dX4_next_81 : decode cX4_next 81 = .ok (.aload_n 0, 1) := by decide +kernel
theorem dX4_next_82 : decode cX4_next 82 = .ok (.dup, 1) := by decide +kernel
theorem dX4_next_83 : decode cX4_next 83 = .ok (.getfield 57, 3) := by decide +kernel
theorem dX4_next_86 : decode cX4_next 86 = .ok (.iconst 1, 1) := by decide +kernel
theorem dX4_next_87 : decode cX4_next 87 = .ok (.iadd, 1) := by decide +kernel
theorem dX4_next_88 : decode cX4_next 88 = .ok (.putfield 57, 3) := by decide +kernel
theorem dX4_next_91 : decode cX4_next 91 = .ok (.goto (-17), 3) := by decide +kernel
theorem dX4_next_94 : decode cX4_next 94 = .ok (.aload_n 0, 1) := by decide +kernel
theorem dX4_next_95 : decode cX4_next 95 = .ok (.aload_n 0, 1) := by decide +kernel
theorem dX4_next_96 : decode cX4_next 96 = .ok (.invokevirtual 85, 3) := by decide +kernel
theorem dX4_next_99 : decode cX4_next 99 = .ok (.putfield 78, 3) := by decide +kernel
theorem dX4_next_102 : decode cX4_next 102 = .ok (.goto 167, 3) := by decide +kernel
theorem dX4_next_105 : decode cX4_next 105 = .ok (.aload_n 0, 1) := by decide +kernel
theorem dX4_next_106 : decode cX4_next 106 = .ok (.invokevirtual 89, 3) := by decide +kernel
theorem dX4_next_109 : decode cX4_next 109 = .ok (.ifCond .eq 124, 3) := by decide +kernel
theorem dX4_next_112 : decode cX4_next 112 = .ok (.aload_n 0, 1) := by decide +kernel
theorem dX4_next_113 : decode cX4_next 113 = .ok (.iconst 0, 1) := by decide +kernel
theorem dX4_next_114 : decode cX4_next 114 = .ok (.putfield 92, 3) := by decide +kernel
theorem dX4_next_117 : decode cX4_next 117 = .ok (.aload_n 0, 1) := by decide +kernel
theorem dX4_next_118 : decode cX4_next 118 = .ok (.invokevirtual 89, 3) := by decide +kernel
theorem dX4_next_121 : decode cX4_next 121 = .ok (.ifCond .eq 56, 3) := by decide +kernel
theorem dX4_next_124 : decode cX4_next 124 = .ok (.aload_n 0, 1) := by decide +kernel
theorem dX4_next_125 : decode cX4_next 125 = .ok (.aload_n 0, 1) := by decide +kernel
theorem dX4_next_126 : decode cX4_next 126 = .ok (.getfield 92, 3) := by decide +kernel
theorem dX4_next_129 : decode cX4_next 129 = .ok (.bipush 99, 2) := by decide +kernel
theorem dX4_next_131 : decode cX4_next 131 = .ok (.if_icmp .le 10, 3) := by decide +kernel
theorem dX4_next_134 : decode cX4_next 134 = .ok (.aload_n 0, 1) := by decide +kernel
theorem dX4_next_135 : decode cX4_next 135 = .ok (.getfield 92, 3) := by decide +kernel
theorem dX4_next_138 : decode cX4_next 138 = .ok (.goto 23, 3) := by decide +kernel
theorem dX4_next_141 : decode cX4_next 141 = .ok (.bipush 10, 2) := by decide +kernel
theorem dX4_next_143 : decode cX4_next 143 = .ok (.aload_n 0, 1) := by decide +kernel
theorem dX4_next_144 : decode cX4_next 144 = .ok (.getfield 92, 3) := by decide +kernel
theorem dX4_next_147 : decode cX4_next 147 = .ok (.imul, 1) := by decide +kernel
theorem dX4_next_148 : decode cX4_next 148 = .ok (.aload_n 0, 1) := by decide +kernel
theorem dX4_next_149 : decode cX4_next 149 = .ok (.getfield 29, 3) := by decide +kernel
theorem dX4_next_152 : decode cX4_next 152 = .ok (.aload_n 0, 1) := by decide +kernel
theorem dX4_next_153 : decode cX4_next 153 = .ok (.getfield 57, 3) := by decide +kernel
theorem dX4_next_156 : decode cX4_next 156 = .ok (.iaload, 1) := by decide +kernel
theorem dX4_next_157 : decode cX4_next 157 = .ok (.iadd, 1) := by decide +kernel
theorem dX4_next_158 : decode cX4_next 158 = .ok (.bipush 48, 2) := by decide +kernel
theorem dX4_next_160 : decode cX4_next 160 = .ok (.isub, 1) := by decide +kernel
theorem dX4_next_161 : decode cX4_next 161 = .ok (.putfield 92, 3) := by decide +kernel
theorem dX4_next_164 : decode cX4_next 164 = .ok (.aload_n 0, 1) := by decide +kernel
theorem dX4_next_165 : decode cX4_next 165 = .ok (.dup, 1) := by decide +kernel
theorem dX4_next_166 : decode cX4_next 166 = .ok (.getfield 57, 3) := by decide +kernel
theorem dX4_next_169 : decode cX4_next 169 = .ok (.iconst 1, 1) := by decide +kernel
theorem dX4_next_170 : decode cX4_next 170 = .ok (.iadd, 1) := by decide +kernel
theorem dX4_next_171 : decode cX4_next 171 = .ok (.putfield 57, 3) := by decide +kernel
theorem dX4_next_174 : decode cX4_next 174 = .ok (.goto (-57), 3) := by decide +kernel
theorem dX4_next_177 : decode cX4_next 177 = .ok (.aload_n 0, 1) := by decide +kernel
theorem dX4_next_178 : decode cX4_next 178 = .ok (.aload_n 0, 1) := by decide +kernel
theorem dX4_next_179 : decode cX4_next 179 = .ok (.getfield 57, 3) := by decide +kernel
theorem dX4_next_182 : decode cX4_next 182 = .ok (.aload_n 0, 1) := by decide +kernel
theorem dX4_next_183 : decode cX4_next 183 = .ok (.getfield 67, 3) := by decide +kernel
theorem dX4_next_186 : decode cX4_next 186 = .ok (.iconst 2, 1) := by decide +kernel
theorem dX4_next_187 : decode cX4_next 187 = .ok (.iadd, 1) := by decide +kernel
theorem dX4_next_188 : decode cX4_next 188 = .ok (.if_icmp .gt 30, 3) := by decide +kernel
theorem dX4_next_191 : decode cX4_next 191 = .ok (.aload_n 0, 1) := by decide +kernel
theorem dX4_next_192 : decode cX4_next 192 = .ok (.getfield 29, 3) := by decide +kernel
theorem dX4_next_195 : decode cX4_next 195 = .ok (.aload_n 0, 1) := by decide +kernel
theorem dX4_next_196 : decode cX4_next 196 = .ok (.getfield 67, 3) := by decide +kernel
theorem dX4_next_199 : decode cX4_next 199 = .ok (.iaload, 1) := by decide +kernel
theorem dX4_next_200 : decode cX4_next 200 = .ok (.bipush 48, 2) := by decide +kernel
theorem dX4_next_202 : decode cX4_next 202 = .ok (.if_icmp .ne 22, 3) := by decide +kernel
theorem dX4_next_205 : decode cX4_next 205 = .ok (.aload_n 0, 1) := by decide +kernel
theorem dX4_next_206 : decode cX4_next 206 = .ok (.getfield 57, 3) := by decide +kernel
theorem dX4_next_209 : decode cX4_next 209 = .ok (.aload_n 0, 1) := by decide +kernel
theorem dX4_next_210 : decode cX4_next 210 = .ok (.getfield 67, 3) := by decide +kernel
theorem dX4_next_213 : decode cX4_next 213 = .ok (.iconst 1, 1) := by decide +kernel
theorem dX4_next_214 : decode cX4_next 214 = .ok (.iadd, 1) := by decide +kernel
theorem dX4_next_215 : decode cX4_next 215 = .ok (.if_icmp .le 9, 3) := by decide +kernel
theorem dX4_next_218 : decode cX4_next 218 = .ok (.sipush 1001, 3) := by decide +kernel
theorem dX4_next_221 : decode cX4_next 221 = .ok (.goto 6, 3) := by decide +kernel
theorem dX4_next_224 : decode cX4_next 224 = .ok (.sipush 1002, 3) := by decide +kernel
theorem dX4_next_227 : decode cX4_next 227 = .ok (.putfield 78, 3) := by decide +kernel
theorem dX4_next_230 : decode cX4_next 230 = .ok (.goto 39, 3) := by decide +kernel
theorem dX4_next_233 : decode cX4_next 233 = .ok (.aload_n 0, 1) := by decide +kernel
theorem dX4_next_234 : decode cX4_next 234 = .ok (.aload_n 0, 1) := by decide +kernel
theorem dX4_next_235 : decode cX4_next 235 = .ok (.getfield 29, 3) := by decide +kernel
theorem dX4_next_238 : decode cX4_next 238 = .ok (.aload_n 0, 1) := by decide +kernel
theorem dX4_next_239 : decode cX4_next 239 = .ok (.getfield 57, 3) := by decide +kernel
theorem dX4_next_242 : decode cX4_next 242 = .ok (.iaload, 1) := by decide +kernel
theorem dX4_next_243 : decode cX4_next 243 = .ok (.bipush 59, 2) := by decide +kernel
theorem dX4_next_245 : decode cX4_next 245 = .ok (.if_icmp .ne 8, 3) := by decide +kernel
theorem dX4_next_248 : decode cX4_next 248 = .ok (.bipush 59, 2) := by decide +kernel
theorem dX4_next_250 : decode cX4_next 250 = .ok (.goto 6, 3) := by decide +kernel
theorem dX4_next_253 : decode cX4_next 253 = .ok (.sipush 1001, 3) := by decide +kernel
theorem dX4_next_256 : decode cX4_next 256 = .ok (.putfield 78, 3) := by decide +kernel
theorem dX4_next_259 : decode cX4_next 259 = .ok (.aload_n 0, 1) := by decide +kernel
theorem dX4_next_260 : decode cX4_next 260 = .ok (.dup, 1) := by decide +kernel
theorem dX4_next_261 : decode cX4_next 261 = .ok (.getfield 57, 3) := by decide +kernel
theorem dX4_next_264 : decode cX4_next 264 = .ok (.iconst 1, 1) := by decide +kernel
theorem dX4_next_265 : decode cX4_next 265 = .ok (.iadd, 1) := by decide +kernel
theorem dX4_next_266 : decode cX4_next 266 = .ok (.putfield 57, 3) := by decide +kernel
theorem dX4_next_269 : decode cX4_next 269 = .ok (.return_, 1) := by decide +kernel
theorem dX4_readNumber_0 : decode cX4_readNumber 0 = .ok (.aload_n 0, 1) := by decide +kernel
theorem dX4_readNumber_1 : decode cX4_readNumber 1 = .ok (.invokevirtual 95, 3) := by decide +kernel
theorem dX4_readNumber_4 : decode cX4_readNumber 4 = .ok (.aload_n 0, 1) := by decide +kernel
theorem dX4_readNumber_5 : decode cX4_readNumber 5 = .ok (.getfield 78, 3) := by decide +kernel
theorem dX4_readNumber_8 : decode cX4_readNumber 8 = .ok (.sipush 1002, 3) := by decide +kernel
theorem dX4_readNumber_11 : decode cX4_readNumber 11 = .ok (.if_icmp .ne 19, 3) := by decide +kernel
theorem dX4_readNumber_14 : decode cX4_readNumber 14 = .ok (.aload_n 0, 1) := by decide +kernel
theorem dX4_readNumber_15 : decode cX4_readNumber 15 = .ok (.getfield 92, 3) := by decide +kernel
theorem dX4_readNumber_18 : decode cX4_readNumber 18 = .ok (.iload_n 1, 1) := by decide +kernel
theorem dX4_readNumber_19 : decode cX4_readNumber 19 = .ok (.iload_n 2, 1) := by decide +kernel
theorem dX4_readNumber_20 : decode cX4_readNumber 20 = .ok (.invokestatic 63, 3) := by decide +kernel
theorem dX4_readNumber_23 : decode cX4_readNumber 23 = .ok (.ifCond .eq 7, 3) := by decide +kernel
theorem dX4_readNumber_26 : decode cX4_readNumber 26 = .ok (.iconst 1, 1) := by decide +kernel
theorem dX4_readNumber_27 : decode cX4_readNumber 27 = .ok (.goto 4, 3) := by decide +kernel
theorem dX4_readNumber_30 : decode cX4_readNumber 30 = .ok (.iconst 0, 1) := by decide +kernel
theorem dX4_readNumber_31 : decode cX4_readNumber 31 = .ok (.ireturn, 1) := by decide +kernel
theorem dX4_readBounds_0 : decode cX4_readBounds 0 = .ok (.aload_n 0, 1) := by decide +kernel
theorem dX4_readBounds_1 : decode cX4_readBounds 1 = .ok (.iconst 0, 1) := by decide +kernel
theorem dX4_readBounds_2 : decode cX4_readBounds 2 = .ok (.aload_n 0, 1) := by decide +kernel
theorem dX4_readBounds_3 : decode cX4_readBounds 3 = .ok (.getfield 13, 3) := by decide +kernel
theorem dX4_readBounds_6 : decode cX4_readBounds 6 = .ok (.iconst 0, 1) := by decide +kernel
theorem dX4_readBounds_7 : decode cX4_readBounds 7 = .ok (.iaload, 1) := by decide +kernel
theorem dX4_readBounds_8 : decode cX4_readBounds 8 = .ok (.iconst 1, 1) := by decide +kernel
theorem dX4_readBounds_9 : decode cX4_readBounds 9 = .ok (.isub, 1) := by decide +kernel
theorem dX4_readBounds_10 : decode cX4_readBounds 10 = .ok (.invokevirtual 98, 3) := by decide +kernel
theorem dX4_readBounds_13 : decode cX4_readBounds 13 = .ok (.ifCond .ne 5, 3) := by decide +kernel
theorem dX4_readBounds_16 : decode cX4_readBounds 16 = .ok (.iconst 0, 1) := by decide +kernel
theorem dX4_readBounds_17 : decode cX4_readBounds 17 = .ok (.ireturn, 1) := by decide +kernel
theorem dX4_readBounds_18 : decode cX4_readBounds 18 = .ok (.iconst 2, 1) := by decide +kernel
theorem dX4_readBounds_19 : decode cX4_readBounds 19 = .ok (.iconst 3, 1) := by decide +kernel
theorem dX4_readBounds_20 : decode cX4_readBounds 20 = .ok (.aload_n 0, 1) := by decide +kernel
theorem dX4_readBounds_21 : decode cX4_readBounds 21 = .ok (.getfield 92, 3) := by decide +kernel
theorem dX4_readBounds_24 : decode cX4_readBounds 24 = .ok (.imul, 1) := by decide +kernel
theorem dX4_readBounds_25 : decode cX4_readBounds 25 = .ok (.iadd, 1) := by decide +kernel
theorem dX4_readBounds_26 : decode cX4_readBounds 26 = .ok (.istore_n 1, 1) := by decide +kernel
theorem dX4_readBounds_27 : decode cX4_readBounds 27 = .ok (.iconst 0, 1) := by decide +kernel
theorem dX4_readBounds_28 : decode cX4_readBounds 28 = .ok (.istore_n 2, 1) := by decide +kernel
theorem dX4_readBounds_29 : decode cX4_readBounds 29 = .ok (.iload_n 2, 1) := by decide +kernel
theorem dX4_readBounds_30 : decode cX4_readBounds 30 = .ok (.iconst 3, 1) := by decide +kernel
theorem dX4_readBounds_31 : decode cX4_readBounds 31 = .ok (.if_icmp .ge 43, 3) := by decide +kernel
theorem dX4_readBounds_34 : decode cX4_readBounds 34 = .ok (.aload_n 0, 1) := by decide +kernel
theorem dX4_readBounds_35 : decode cX4_readBounds 35 = .ok (.iconst 0, 1) := by decide +kernel
theorem dX4_readBounds_36 : decode cX4_readBounds 36 = .ok (.iload_n 2, 1) := by decide +kernel
theorem dX4_readBounds_37 : decode cX4_readBounds 37 = .ok (.iconst 1, 1) := by decide +kernel
theorem dX4_readBounds_38 : decode cX4_readBounds 38 = .ok (.if_icmp .ne 8, 3) := by decide +kernel
theorem dX4_readBounds_41 : decode cX4_readBounds 41 = .ok (.bipush 9, 2) := by decide +kernel
theorem dX4_readBounds_43 : decode cX4_readBounds 43 = .ok (.goto 5, 3) := by decide +kernel
theorem dX4_readBounds_46 : decode cX4_readBounds 46 = .ok (.bipush 99, 2) := by decide +kernel
theorem dX4_readBounds_48 : decode cX4_readBounds 48 = .ok (.invokevirtual 98, 3) := by decide +kernel
theorem dX4_readBounds_51 : decode cX4_readBounds 51 = .ok (.ifCond .ne 5, 3) := by decide +kernel
theorem dX4_readBounds_54 : decode cX4_readBounds 54 = .ok (.iconst 0, 1) := by decide +kernel
theorem dX4_readBounds_55 : decode cX4_readBounds 55 = .ok (.ireturn, 1) := by decide +kernel
theorem dX4_readBounds_56 : decode cX4_readBounds 56 = .ok (.aload_n 0, 1) := by decide +kernel
theorem dX4_readBounds_57 : decode cX4_readBounds 57 = .ok (.getfield 13, 3) := by decide +kernel
theorem dX4_readBounds_60 : decode cX4_readBounds 60 = .ok (.iload_n 1, 1) := by decide +kernel
theorem dX4_readBounds_61 : decode cX4_readBounds 61 = .ok (.iload_n 2, 1) := by decide +kernel
theorem dX4_readBounds_62 : decode cX4_readBounds 62 = .ok (.iadd, 1) := by decide +kernel
theorem dX4_readBounds_63 : decode cX4_readBounds 63 = .ok (.aload_n 0, 1) := by decide +kernel
theorem dX4_readBounds_64 : decode cX4_readBounds 64 = .ok (.getfield 92, 3) := by decide +kernel
theorem dX4_readBounds_67 : decode cX4_readBounds 67 = .ok (.iastore, 1) := by decide +kernel
theorem dX4_readBounds_68 : decode cX4_readBounds 68 = .ok (.iinc 2 1, 3) := by decide +kernel
theorem dX4_readBounds_71 : decode cX4_readBounds 71 = .ok (.goto (-42), 3) := by decide +kernel
theorem dX4_readBounds_74 : decode cX4_readBounds 74 = .ok (.iconst 1, 1) := by decide +kernel
theorem dX4_readBounds_75 : decode cX4_readBounds 75 = .ok (.ireturn, 1) := by decide +kernel
theorem dX4_readItem_0 : decode cX4_readItem 0 = .ok (.aload_n 0, 1) := by decide +kernel
theorem dX4_readItem_1 : decode cX4_readItem 1 = .ok (.getfield 78, 3) := by decide +kernel
theorem dX4_readItem_4 : decode cX4_readItem 4 = .ok (.sipush 1003, 3) := by decide +kernel
theorem dX4_readItem_7 : decode cX4_readItem 7 = .ok (.if_icmp .ne 39, 3) := by decide +kernel
theorem dX4_readItem_10 : decode cX4_readItem 10 = .ok (.iload_n 1, 1) := by decide +kernel
theorem dX4_readItem_11 : decode cX4_readItem 11 = .ok (.ifCond .eq 35, 3) := by decide +kernel
theorem dX4_readItem_14 : decode cX4_readItem 14 = .ok (.aload_n 0, 1) := by decide +kernel
theorem dX4_readItem_15 : decode cX4_readItem 15 = .ok (.iconst 2, 1) := by decide +kernel
theorem dX4_readItem_16 : decode cX4_readItem 16 = .ok (.iconst 4, 1) := by decide +kernel
theorem dX4_readItem_17 : decode cX4_readItem 17 = .ok (.invokevirtual 98, 3) := by decide +kernel
theorem dX4_readItem_20 : decode cX4_readItem 20 = .ok (.istore_n 2, 1) := by decide +kernel
theorem dX4_readItem_21 : decode cX4_readItem 21 = .ok (.aload_n 0, 1) := by decide +kernel
theorem dX4_readItem_22 : decode cX4_readItem 22 = .ok (.getfield 13, 3) := by decide +kernel
theorem dX4_readItem_25 : decode cX4_readItem 25 = .ok (.iconst 0, 1) := by decide +kernel
theorem dX4_readItem_26 : decode cX4_readItem 26 = .ok (.iload_n 2, 1) := by decide +kernel
theorem dX4_readItem_27 : decode cX4_readItem 27 = .ok (.ifCond .eq 10, 3) := by decide +kernel
theorem dX4_readItem_30 : decode cX4_readItem 30 = .ok (.aload_n 0, 1) := by decide +kernel
theorem dX4_readItem_31 : decode cX4_readItem 31 = .ok (.getfield 92, 3) := by decide +kernel
theorem dX4_readItem_34 : decode cX4_readItem 34 = .ok (.goto 9, 3) := by decide +kernel
theorem dX4_readItem_37 : decode cX4_readItem 37 = .ok (.aload_n 0, 1) := by decide +kernel
theorem dX4_readItem_38 : decode cX4_readItem 38 = .ok (.getfield 13, 3) := by decide +kernel
theorem dX4_readItem_41 : decode cX4_readItem 41 = .ok (.iconst 0, 1) := by decide +kernel
theorem dX4_readItem_42 : decode cX4_readItem 42 = .ok (.iaload, 1) := by decide +kernel
theorem dX4_readItem_43 : decode cX4_readItem 43 = .ok (.iastore, 1) := by decide +kernel
theorem dX4_readItem_44 : decode cX4_readItem 44 = .ok (.iload_n 2, 1) := by decide +kernel
theorem dX4_readItem_45 : decode cX4_readItem 45 = .ok (.ireturn, 1) := by decide +kernel
theorem dX4_readItem_46 : decode cX4_readItem 46 = .ok (.aload_n 0, 1) := by decide +kernel
theorem dX4_readItem_47 : decode cX4_readItem 47 = .ok (.getfield 78, 3) := by decide +kernel
theorem dX4_readItem_50 : decode cX4_readItem 50 = .ok (.sipush 1004, 3) := by decide +kernel
theorem dX4_readItem_53 : decode cX4_readItem 53 = .ok (.if_icmp .ne 14, 3) := by decide +kernel
theorem dX4_readItem_56 : decode cX4_readItem 56 = .ok (.aload_n 0, 1) := by decide +kernel
theorem dX4_readItem_57 : decode cX4_readItem 57 = .ok (.invokevirtual 102, 3) := by decide +kernel
theorem dX4_readItem_60 : decode cX4_readItem 60 = .ok (.ifCond .eq 7, 3) := by decide +kernel
theorem dX4_readItem_63 : decode cX4_readItem 63 = .ok (.iconst 1, 1) := by decide +kernel
theorem dX4_readItem_64 : decode cX4_readItem 64 = .ok (.goto 4, 3) := by decide +kernel
theorem dX4_readItem_67 : decode cX4_readItem 67 = .ok (.iconst 0, 1) := by decide +kernel
theorem dX4_readItem_68 : decode cX4_readItem 68 = .ok (.ireturn, 1) := by decide +kernel
theorem dX4_parse_0 : decode cX4_parse 0 = .ok (.aload_n 0, 1) := by decide +kernel
theorem dX4_parse_1 : decode cX4_parse 1 = .ok (.invokevirtual 38, 3) := by decide +kernel
theorem dX4_parse_4 : decode cX4_parse 4 = .ok (.aload_n 0, 1) := by decide +kernel
theorem dX4_parse_5 : decode cX4_parse 5 = .ok (.iconst 0, 1) := by decide +kernel
theorem dX4_parse_6 : decode cX4_parse 6 = .ok (.putfield 105, 3) := by decide +kernel
theorem dX4_parse_9 : decode cX4_parse 9 = .ok (.aload_n 0, 1) := by decide +kernel
theorem dX4_parse_10 : decode cX4_parse 10 = .ok (.iconst 0, 1) := by decide +kernel
theorem dX4_parse_11 : decode cX4_parse 11 = .ok (.putfield 57, 3) := by decide +kernel
theorem dX4_parse_14 : decode cX4_parse 14 = .ok (.aload_n 0, 1) := by decide +kernel
theorem dX4_parse_15 : decode cX4_parse 15 = .ok (.invokevirtual 95, 3) := by decide +kernel
theorem dX4_parse_18 : decode cX4_parse 18 = .ok (.aload_n 0, 1) := by decide +kernel
theorem dX4_parse_19 : decode cX4_parse 19 = .ok (.getfield 78, 3) := by decide +kernel
theorem dX4_parse_22 : decode cX4_parse 22 = .ok (.sipush 1000, 3) := by decide +kernel
theorem dX4_parse_25 : decode cX4_parse 25 = .ok (.if_icmp .eq 62, 3) := by decide +kernel
theorem dX4_parse_28 : decode cX4_parse 28 = .ok (.aload_n 0, 1) := by decide +kernel
theorem dX4_parse_29 : decode cX4_parse 29 = .ok (.aload_n 0, 1) := by decide +kernel
theorem dX4_parse_30 : decode cX4_parse 30 = .ok (.getfield 105, 3) := by decide +kernel
theorem dX4_parse_33 : decode cX4_parse 33 = .ok (.ifCond .ne 7, 3) := by decide +kernel
theorem dX4_parse_36 : decode cX4_parse 36 = .ok (.iconst 1, 1) := by decide +kernel
theorem dX4_parse_37 : decode cX4_parse 37 = .ok (.goto 4, 3) := by decide +kernel
theorem dX4_parse_40 : decode cX4_parse 40 = .ok (.iconst 0, 1) := by decide +kernel
theorem dX4_parse_41 : decode cX4_parse 41 = .ok (.invokevirtual 108, 3) := by decide +kernel
theorem dX4_parse_44 : decode cX4_parse 44 = .ok (.ifCond .ne 8, 3) := by decide +kernel
theorem dX4_parse_47 : decode cX4_parse 47 = .ok (.aload_n 0, 1) := by decide +kernel
theorem dX4_parse_48 : decode cX4_parse 48 = .ok (.getfield 67, 3) := by decide +kernel
theorem dX4_parse_51 : decode cX4_parse 51 = .ok (.ireturn, 1) := by decide +kernel
theorem dX4_parse_52 : decode cX4_parse 52 = .ok (.aload_n 0, 1) := by decide +kernel
theorem dX4_parse_53 : decode cX4_parse 53 = .ok (.invokevirtual 95, 3) := by decide +kernel
theorem dX4_parse_56 : decode cX4_parse 56 = .ok (.aload_n 0, 1) := by decide +kernel
theorem dX4_parse_57 : decode cX4_parse 57 = .ok (.getfield 78, 3) := by decide +kernel
theorem dX4_parse_60 : decode cX4_parse 60 = .ok (.bipush 59, 2) := by decide +kernel
theorem dX4_parse_62 : decode cX4_parse 62 = .ok (.if_icmp .eq 8, 3) := by decide +kernel
theorem dX4_parse_65 : decode cX4_parse 65 = .ok (.aload_n 0, 1) := by decide +kernel
theorem dX4_parse_66 : decode cX4_parse 66 = .ok (.getfield 67, 3) := by decide +kernel
theorem dX4_parse_69 : decode cX4_parse 69 = .ok (.ireturn, 1) := by decide +kernel
theorem dX4_parse_70 : decode cX4_parse 70 = .ok (.aload_n 0, 1) := by decide +kernel
theorem dX4_parse_71 : decode cX4_parse 71 = .ok (.dup, 1) := by decide +kernel
theorem dX4_parse_72 : decode cX4_parse 72 = .ok (.getfield 105, 3) := by decide +kernel
theorem dX4_parse_75 : decode cX4_parse 75 = .ok (.iconst 1, 1) := by decide +kernel
theorem dX4_parse_76 : decode cX4_parse 76 = .ok (.iadd, 1) := by decide +kernel
theorem dX4_parse_77 : decode cX4_parse 77 = .ok (.putfield 105, 3) := by decide +kernel
theorem dX4_parse_80 : decode cX4_parse 80 = .ok (.aload_n 0, 1) := by decide +kernel
theorem dX4_parse_81 : decode cX4_parse 81 = .ok (.invokevirtual 95, 3) := by decide +kernel
theorem dX4_parse_84 : decode cX4_parse 84 = .ok (.goto (-66), 3) := by decide +kernel
theorem dX4_parse_87 : decode cX4_parse 87 = .ok (.bipush (-9), 2) := by decide +kernel
theorem dX4_parse_89 : decode cX4_parse 89 = .ok (.ireturn, 1) := by decide +kernel
theorem dX4_type_0 : decode cX4_type 0 = .ok (.iload_n 1, 1) := by decide +kernel
theorem dX4_type_1 : decode cX4_type 1 = .ok (.iconst 0, 1) := by decide +kernel
theorem dX4_type_2 : decode cX4_type 2 = .ok (.sipush 255, 3) := by decide +kernel
theorem dX4_type_5 : decode cX4_type 5 = .ok (.invokestatic 63, 3) := by decide +kernel
theorem dX4_type_8 : decode cX4_type 8 = .ok (.ifCond .ne 5, 3) := by decide +kernel
theorem dX4_type_11 : decode cX4_type 11 = .ok (.iconst (-1), 1) := by decide +kernel
theorem dX4_type_12 : decode cX4_type 12 = .ok (.ireturn, 1) := by decide +kernel
theorem dX4_type_13 : decode cX4_type 13 = .ok (.aload_n 0, 1) := by decide +kernel
theorem dX4_type_14 : decode cX4_type 14 = .ok (.getfield 60, 3) := by decide +kernel
theorem dX4_type_17 : decode cX4_type 17 = .ok (.bipush 80, 2) := by decide +kernel
theorem dX4_type_19 : decode cX4_type 19 = .ok (.if_icmp .ne 6, 3) := by decide +kernel
theorem dX4_type_22 : decode cX4_type 22 = .ok (.bipush (-3), 2) := by decide +kernel
theorem dX4_type_24 : decode cX4_type 24 = .ok (.ireturn, 1) := by decide +kernel
theorem dX4_type_25 : decode cX4_type 25 = .ok (.aload_n 0, 1) := by decide +kernel
theorem dX4_type_26 : decode cX4_type 26 = .ok (.getfield 29, 3) := by decide +kernel
theorem dX4_type_29 : decode cX4_type 29 = .ok (.aload_n 0, 1) := by decide +kernel
theorem dX4_type_30 : decode cX4_type 30 = .ok (.getfield 60, 3) := by decide +kernel
theorem dX4_type_33 : decode cX4_type 33 = .ok (.iload_n 1, 1) := by decide +kernel
theorem dX4_type_34 : decode cX4_type 34 = .ok (.iastore, 1) := by decide +kernel
theorem dX4_type_35 : decode cX4_type 35 = .ok (.aload_n 0, 1) := by decide +kernel
theorem dX4_type_36 : decode cX4_type 36 = .ok (.dup, 1) := by decide +kernel
theorem dX4_type_37 : decode cX4_type 37 = .ok (.getfield 60, 3) := by decide +kernel
theorem dX4_type_40 : decode cX4_type 40 = .ok (.iconst 1, 1) := by decide +kernel
theorem dX4_type_41 : decode cX4_type 41 = .ok (.iadd, 1) := by decide +kernel
theorem dX4_type_42 : decode cX4_type 42 = .ok (.putfield 60, 3) := by decide +kernel
theorem dX4_type_45 : decode cX4_type 45 = .ok (.aload_n 0, 1) := by decide +kernel
theorem dX4_type_46 : decode cX4_type 46 = .ok (.getfield 60, 3) := by decide +kernel
theorem dX4_type_49 : decode cX4_type 49 = .ok (.ireturn, 1) := by decide +kernel
theorem dX4_clear_0 : decode cX4_clear 0 = .ok (.aload_n 0, 1) := by decide +kernel
theorem dX4_clear_1 : decode cX4_clear 1 = .ok (.getfield 60, 3) := by decide +kernel
theorem dX4_clear_4 : decode cX4_clear 4 = .ok (.istore_n 1, 1) := by decide +kernel
theorem dX4_clear_5 : decode cX4_clear 5 = .ok (.aload_n 0, 1) := by decide +kernel
theorem dX4_clear_6 : decode cX4_clear 6 = .ok (.iconst 0, 1) := by decide +kernel
theorem dX4_clear_7 : decode cX4_clear 7 = .ok (.putfield 60, 3) := by decide +kernel
theorem dX4_clear_10 : decode cX4_clear 10 = .ok (.iload_n 1, 1) := by decide +kernel
theorem dX4_clear_11 : decode cX4_clear 11 = .ok (.ireturn, 1) := by decide +kernel
theorem dX4_tells_0 : decode cX4_tells 0 = .ok (.aload_n 0, 1) := by decide +kernel
theorem dX4_tells_1 : decode cX4_tells 1 = .ok (.invokevirtual 112, 3) := by decide +kernel
theorem dX4_tells_4 : decode cX4_tells 4 = .ok (.istore_n 1, 1) := by decide +kernel
theorem dX4_tells_5 : decode cX4_tells 5 = .ok (.iload_n 1, 1) := by decide +kernel
theorem dX4_tells_6 : decode cX4_tells 6 = .ok (.bipush (-9), 2) := by decide +kernel
theorem dX4_tells_8 : decode cX4_tells 8 = .ok (.if_icmp .eq 8, 3) := by decide +kernel
theorem dX4_tells_11 : decode cX4_tells 11 = .ok (.bipush (-10), 2) := by decide +kernel
theorem dX4_tells_13 : decode cX4_tells 13 = .ok (.iload_n 1, 1) := by decide +kernel
theorem dX4_tells_14 : decode cX4_tells 14 = .ok (.isub, 1) := by decide +kernel
theorem dX4_tells_15 : decode cX4_tells 15 = .ok (.ireturn, 1) := by decide +kernel
theorem dX4_tells_16 : decode cX4_tells 16 = .ok (.aload_n 0, 1) := by decide +kernel
theorem dX4_tells_17 : decode cX4_tells 17 = .ok (.invokevirtual 115, 3) := by decide +kernel
theorem dX4_tells_20 : decode cX4_tells 20 = .ok (.aload_n 0, 1) := by decide +kernel
theorem dX4_tells_21 : decode cX4_tells 21 = .ok (.getfield 13, 3) := by decide +kernel
theorem dX4_tells_24 : decode cX4_tells 24 = .ok (.invokestatic 41, 3) := by decide +kernel
theorem dX4_tells_27 : decode cX4_tells 27 = .ok (.aload_n 0, 1) := by decide +kernel
theorem dX4_tells_28 : decode cX4_tells 28 = .ok (.getfield 13, 3) := by decide +kernel
theorem dX4_tells_31 : decode cX4_tells 31 = .ok (.iconst 0, 1) := by decide +kernel
theorem dX4_tells_32 : decode cX4_tells 32 = .ok (.aload_n 0, 1) := by decide +kernel
theorem dX4_tells_33 : decode cX4_tells 33 = .ok (.getfield 7, 3) := by decide +kernel
theorem dX4_tells_36 : decode cX4_tells 36 = .ok (.iconst 0, 1) := by decide +kernel
theorem dX4_tells_37 : decode cX4_tells 37 = .ok (.invokestatic 45, 3) := by decide +kernel
theorem dX4_tells_40 : decode cX4_tells 40 = .ok (.aload_n 0, 1) := by decide +kernel
theorem dX4_tells_41 : decode cX4_tells 41 = .ok (.iconst 0, 1) := by decide +kernel
theorem dX4_tells_42 : decode cX4_tells 42 = .ok (.putfield 60, 3) := by decide +kernel
theorem dX4_tells_45 : decode cX4_tells 45 = .ok (.aload_n 0, 1) := by decide +kernel
theorem dX4_tells_46 : decode cX4_tells 46 = .ok (.getfield 105, 3) := by decide +kernel
theorem dX4_tells_49 : decode cX4_tells 49 = .ok (.ireturn, 1) := by decide +kernel
theorem dX4_isCopy_0 : decode cX4_isCopy 0 = .ok (.iload_n 1, 1) := by decide +kernel
theorem dX4_isCopy_1 : decode cX4_isCopy 1 = .ok (.iconst 0, 1) := by decide +kernel
theorem dX4_isCopy_2 : decode cX4_isCopy 2 = .ok (.aload_n 0, 1) := by decide +kernel
theorem dX4_isCopy_3 : decode cX4_isCopy 3 = .ok (.getfield 7, 3) := by decide +kernel
theorem dX4_isCopy_6 : decode cX4_isCopy 6 = .ok (.iconst 0, 1) := by decide +kernel
theorem dX4_isCopy_7 : decode cX4_isCopy 7 = .ok (.iaload, 1) := by decide +kernel
theorem dX4_isCopy_8 : decode cX4_isCopy 8 = .ok (.iconst 1, 1) := by decide +kernel
theorem dX4_isCopy_9 : decode cX4_isCopy 9 = .ok (.isub, 1) := by decide +kernel
theorem dX4_isCopy_10 : decode cX4_isCopy 10 = .ok (.invokestatic 63, 3) := by decide +kernel
theorem dX4_isCopy_13 : decode cX4_isCopy 13 = .ok (.ireturn, 1) := by decide +kernel
theorem dX4_arePair_0 : decode cX4_arePair 0 = .ok (.aload_n 0, 1) := by decide +kernel
theorem dX4_arePair_1 : decode cX4_arePair 1 = .ok (.iload_n 1, 1) := by decide +kernel
theorem dX4_arePair_2 : decode cX4_arePair 2 = .ok (.invokevirtual 118, 3) := by decide +kernel
theorem dX4_arePair_5 : decode cX4_arePair 5 = .ok (.ifCond .eq 20, 3) := by decide +kernel
theorem dX4_arePair_8 : decode cX4_arePair 8 = .ok (.aload_n 0, 1) := by decide +kernel
theorem dX4_arePair_9 : decode cX4_arePair 9 = .ok (.iload_n 2, 1) := by decide +kernel
theorem dX4_arePair_10 : decode cX4_arePair 10 = .ok (.invokevirtual 118, 3) := by decide +kernel
theorem dX4_arePair_13 : decode cX4_arePair 13 = .ok (.ifCond .eq 12, 3) := by decide +kernel
theorem dX4_arePair_16 : decode cX4_arePair 16 = .ok (.iload_n 1, 1) := by decide +kernel
theorem dX4_arePair_17 : decode cX4_arePair 17 = .ok (.iload_n 2, 1) := by decide +kernel
theorem dX4_arePair_18 : decode cX4_arePair 18 = .ok (.if_icmp .eq 7, 3) := by decide +kernel
theorem dX4_arePair_21 : decode cX4_arePair 21 = .ok (.iconst 1, 1) := by decide +kernel
theorem dX4_arePair_22 : decode cX4_arePair 22 = .ok (.goto 4, 3) := by decide +kernel
theorem dX4_arePair_25 : decode cX4_arePair 25 = .ok (.iconst 0, 1) := by decide +kernel
theorem dX4_arePair_26 : decode cX4_arePair 26 = .ok (.ireturn, 1) := by decide +kernel
theorem dX4_weight_0 : decode cX4_weight 0 = .ok (.aload_n 0, 1) := by decide +kernel
theorem dX4_weight_1 : decode cX4_weight 1 = .ok (.getfield 7, 3) := by decide +kernel
theorem dX4_weight_4 : decode cX4_weight 4 = .ok (.bipush 15, 2) := by decide +kernel
theorem dX4_weight_6 : decode cX4_weight 6 = .ok (.iconst 3, 1) := by decide +kernel
theorem dX4_weight_7 : decode cX4_weight 7 = .ok (.iload_n 1, 1) := by decide +kernel
theorem dX4_weight_8 : decode cX4_weight 8 = .ok (.imul, 1) := by decide +kernel
theorem dX4_weight_9 : decode cX4_weight 9 = .ok (.iadd, 1) := by decide +kernel
theorem dX4_weight_10 : decode cX4_weight 10 = .ok (.iconst 1, 1) := by decide +kernel
theorem dX4_weight_11 : decode cX4_weight 11 = .ok (.iadd, 1) := by decide +kernel
theorem dX4_weight_12 : decode cX4_weight 12 = .ok (.iaload, 1) := by decide +kernel
theorem dX4_weight_13 : decode cX4_weight 13 = .ok (.ireturn, 1) := by decide +kernel
theorem dX4_countBits_0 : decode cX4_countBits 0 = .ok (.iconst 0, 1) := by decide +kernel
theorem dX4_countBits_1 : decode cX4_countBits 1 = .ok (.istore_n 1, 1) := by decide +kernel
theorem dX4_countBits_2 : decode cX4_countBits 2 = .ok (.iconst 0, 1) := by decide +kernel
theorem dX4_countBits_3 : decode cX4_countBits 3 = .ok (.istore_n 2, 1) := by decide +kernel
theorem dX4_countBits_4 : decode cX4_countBits 4 = .ok (.iload_n 2, 1) := by decide +kernel
theorem dX4_countBits_5 : decode cX4_countBits 5 = .ok (.bipush 24, 2) := by decide +kernel
theorem dX4_countBits_7 : decode cX4_countBits 7 = .ok (.if_icmp .ge 17, 3) := by decide +kernel
theorem dX4_countBits_10 : decode cX4_countBits 10 = .ok (.iload_n 1, 1) := by decide +kernel
theorem dX4_countBits_11 : decode cX4_countBits 11 = .ok (.iload_n 0, 1) := by decide +kernel
theorem dX4_countBits_12 : decode cX4_countBits 12 = .ok (.iload_n 2, 1) := by decide +kernel
theorem dX4_countBits_13 : decode cX4_countBits 13 = .ok (.ishr, 1) := by decide +kernel
theorem dX4_countBits_14 : decode cX4_countBits 14 = .ok (.iconst 1, 1) := by decide +kernel
theorem dX4_countBits_15 : decode cX4_countBits 15 = .ok (.iand, 1) := by decide +kernel
theorem dX4_countBits_16 : decode cX4_countBits 16 = .ok (.iadd, 1) := by decide +kernel
theorem dX4_countBits_17 : decode cX4_countBits 17 = .ok (.istore_n 1, 1) := by decide +kernel
theorem dX4_countBits_18 : decode cX4_countBits 18 = .ok (.iinc 2 1, 3) := by decide +kernel
theorem dX4_countBits_21 : decode cX4_countBits 21 = .ok (.goto (-17), 3) := by decide +kernel
theorem dX4_countBits_24 : decode cX4_countBits 24 = .ok (.iload_n 1, 1) := by decide +kernel
theorem dX4_countBits_25 : decode cX4_countBits 25 = .ok (.ireturn, 1) := by decide +kernel
theorem dX4_acceptedBy_0 : decode cX4_acceptedBy 0 = .ok (.iconst 0, 1) := by decide +kernel
theorem dX4_acceptedBy_1 : decode cX4_acceptedBy 1 = .ok (.istore_n 2, 1) := by decide +kernel
theorem dX4_acceptedBy_2 : decode cX4_acceptedBy 2 = .ok (.iconst 0, 1) := by decide +kernel
theorem dX4_acceptedBy_3 : decode cX4_acceptedBy 3 = .ok (.istore_n 3, 1) := by decide +kernel
theorem dX4_acceptedBy_4 : decode cX4_acceptedBy 4 = .ok (.iload_n 3, 1) := by decide +kernel
theorem dX4_acceptedBy_5 : decode cX4_acceptedBy 5 = .ok (.aload_n 0, 1) := by decide +kernel
theorem dX4_acceptedBy_6 : decode cX4_acceptedBy 6 = .ok (.getfield 7, 3) := by decide +kernel
theorem dX4_acceptedBy_9 : decode cX4_acceptedBy 9 = .ok (.bipush 14, 2) := by decide +kernel
theorem dX4_acceptedBy_11 : decode cX4_acceptedBy 11 = .ok (.iaload, 1) := by decide +kernel
theorem dX4_acceptedBy_12 : decode cX4_acceptedBy 12 = .ok (.if_icmp .ge 34, 3) := by decide +kernel
theorem dX4_acceptedBy_15 : decode cX4_acceptedBy 15 = .ok (.iload_n 2, 1) := by decide +kernel
theorem dX4_acceptedBy_16 : decode cX4_acceptedBy 16 = .ok (.aload_n 0, 1) := by decide +kernel
theorem dX4_acceptedBy_17 : decode cX4_acceptedBy 17 = .ok (.getfield 7, 3) := by decide +kernel
theorem dX4_acceptedBy_20 : decode cX4_acceptedBy 20 = .ok (.bipush 15, 2) := by decide +kernel
theorem dX4_acceptedBy_22 : decode cX4_acceptedBy 22 = .ok (.iconst 3, 1) := by decide +kernel
theorem dX4_acceptedBy_23 : decode cX4_acceptedBy 23 = .ok (.iload_n 3, 1) := by decide +kernel
theorem dX4_acceptedBy_24 : decode cX4_acceptedBy 24 = .ok (.imul, 1) := by decide +kernel
theorem dX4_acceptedBy_25 : decode cX4_acceptedBy 25 = .ok (.iadd, 1) := by decide +kernel
theorem dX4_acceptedBy_26 : decode cX4_acceptedBy 26 = .ok (.iaload, 1) := by decide +kernel
theorem dX4_acceptedBy_27 : decode cX4_acceptedBy 27 = .ok (.iload_n 1, 1) := by decide +kernel
theorem dX4_acceptedBy_28 : decode cX4_acceptedBy 28 = .ok (.if_icmp .ne 9, 3) := by decide +kernel
theorem dX4_acceptedBy_31 : decode cX4_acceptedBy 31 = .ok (.iconst 1, 1) := by decide +kernel
theorem dX4_acceptedBy_32 : decode cX4_acceptedBy 32 = .ok (.iload_n 3, 1) := by decide +kernel
theorem dX4_acceptedBy_33 : decode cX4_acceptedBy 33 = .ok (.ishl, 1) := by decide +kernel
theorem dX4_acceptedBy_34 : decode cX4_acceptedBy 34 = .ok (.goto 4, 3) := by decide +kernel
theorem dX4_acceptedBy_37 : decode cX4_acceptedBy 37 = .ok (.iconst 0, 1) := by decide +kernel
theorem dX4_acceptedBy_38 : decode cX4_acceptedBy 38 = .ok (.ior, 1) := by decide +kernel
theorem dX4_acceptedBy_39 : decode cX4_acceptedBy 39 = .ok (.istore_n 2, 1) := by decide +kernel
theorem dX4_acceptedBy_40 : decode cX4_acceptedBy 40 = .ok (.iinc 3 1, 3) := by decide +kernel
theorem dX4_acceptedBy_43 : decode cX4_acceptedBy 43 = .ok (.goto (-39), 3) := by decide +kernel
theorem dX4_acceptedBy_46 : decode cX4_acceptedBy 46 = .ok (.iload_n 2, 1) := by decide +kernel
theorem dX4_acceptedBy_47 : decode cX4_acceptedBy 47 = .ok (.ireturn, 1) := by decide +kernel
theorem dX4_sumOf_0 : decode cX4_sumOf 0 = .ok (.iconst 0, 1) := by decide +kernel
theorem dX4_sumOf_1 : decode cX4_sumOf 1 = .ok (.istore_n 2, 1) := by decide +kernel
theorem dX4_sumOf_2 : decode cX4_sumOf 2 = .ok (.iconst 0, 1) := by decide +kernel
theorem dX4_sumOf_3 : decode cX4_sumOf 3 = .ok (.istore_n 3, 1) := by decide +kernel
theorem dX4_sumOf_4 : decode cX4_sumOf 4 = .ok (.iload_n 3, 1) := by decide +kernel
theorem dX4_sumOf_5 : decode cX4_sumOf 5 = .ok (.aload_n 0, 1) := by decide +kernel
theorem dX4_sumOf_6 : decode cX4_sumOf 6 = .ok (.getfield 7, 3) := by decide +kernel
theorem dX4_sumOf_9 : decode cX4_sumOf 9 = .ok (.bipush 14, 2) := by decide +kernel
theorem dX4_sumOf_11 : decode cX4_sumOf 11 = .ok (.iaload, 1) := by decide +kernel
theorem dX4_sumOf_12 : decode cX4_sumOf 12 = .ok (.if_icmp .ge 30, 3) := by decide +kernel
theorem dX4_sumOf_15 : decode cX4_sumOf 15 = .ok (.iload_n 2, 1) := by decide +kernel
theorem dX4_sumOf_16 : decode cX4_sumOf 16 = .ok (.iload_n 1, 1) := by decide +kernel
theorem dX4_sumOf_17 : decode cX4_sumOf 17 = .ok (.iload_n 3, 1) := by decide +kernel
theorem dX4_sumOf_18 : decode cX4_sumOf 18 = .ok (.ishr, 1) := by decide +kernel
theorem dX4_sumOf_19 : decode cX4_sumOf 19 = .ok (.iconst 1, 1) := by decide +kernel
theorem dX4_sumOf_20 : decode cX4_sumOf 20 = .ok (.iand, 1) := by decide +kernel
theorem dX4_sumOf_21 : decode cX4_sumOf 21 = .ok (.iconst 1, 1) := by decide +kernel
theorem dX4_sumOf_22 : decode cX4_sumOf 22 = .ok (.if_icmp .ne 11, 3) := by decide +kernel
theorem dX4_sumOf_25 : decode cX4_sumOf 25 = .ok (.aload_n 0, 1) := by decide +kernel
theorem dX4_sumOf_26 : decode cX4_sumOf 26 = .ok (.iload_n 3, 1) := by decide +kernel
theorem dX4_sumOf_27 : decode cX4_sumOf 27 = .ok (.invokevirtual 122, 3) := by decide +kernel
theorem dX4_sumOf_30 : decode cX4_sumOf 30 = .ok (.goto 4, 3) := by decide +kernel
theorem dX4_sumOf_33 : decode cX4_sumOf 33 = .ok (.iconst 0, 1) := by decide +kernel
theorem dX4_sumOf_34 : decode cX4_sumOf 34 = .ok (.iadd, 1) := by decide +kernel
theorem dX4_sumOf_35 : decode cX4_sumOf 35 = .ok (.istore_n 2, 1) := by decide +kernel
theorem dX4_sumOf_36 : decode cX4_sumOf 36 = .ok (.iinc 3 1, 3) := by decide +kernel
theorem dX4_sumOf_39 : decode cX4_sumOf 39 = .ok (.goto (-35), 3) := by decide +kernel
theorem dX4_sumOf_42 : decode cX4_sumOf 42 = .ok (.iload_n 2, 1) := by decide +kernel
theorem dX4_sumOf_43 : decode cX4_sumOf 43 = .ok (.ireturn, 1) := by decide +kernel
theorem dX4_owed_0 : decode cX4_owed 0 = .ok (.aload_n 0, 1) := by decide +kernel
theorem dX4_owed_1 : decode cX4_owed 1 = .ok (.aload_n 0, 1) := by decide +kernel
theorem dX4_owed_2 : decode cX4_owed 2 = .ok (.iload_n 1, 1) := by decide +kernel
theorem dX4_owed_3 : decode cX4_owed 3 = .ok (.invokevirtual 126, 3) := by decide +kernel
theorem dX4_owed_6 : decode cX4_owed 6 = .ok (.aload_n 0, 1) := by decide +kernel
theorem dX4_owed_7 : decode cX4_owed 7 = .ok (.getfield 7, 3) := by decide +kernel
theorem dX4_owed_10 : decode cX4_owed 10 = .ok (.bipush 87, 2) := by decide +kernel
theorem dX4_owed_12 : decode cX4_owed 12 = .ok (.iload_n 2, 1) := by decide +kernel
theorem dX4_owed_13 : decode cX4_owed 13 = .ok (.iadd, 1) := by decide +kernel
theorem dX4_owed_14 : decode cX4_owed 14 = .ok (.iaload, 1) := by decide +kernel
theorem dX4_owed_15 : decode cX4_owed 15 = .ok (.iconst (-1), 1) := by decide +kernel
theorem dX4_owed_16 : decode cX4_owed 16 = .ok (.ixor, 1) := by decide +kernel
theorem dX4_owed_17 : decode cX4_owed 17 = .ok (.iand, 1) := by decide +kernel
theorem dX4_owed_18 : decode cX4_owed 18 = .ok (.invokevirtual 129, 3) := by decide +kernel
theorem dX4_owed_21 : decode cX4_owed 21 = .ok (.ireturn, 1) := by decide +kernel
theorem dX4_budgetCell_0 : decode cX4_budgetCell 0 = .ok (.bipush 111, 2) := by decide +kernel
theorem dX4_budgetCell_2 : decode cX4_budgetCell 2 = .ok (.iconst 4, 1) := by decide +kernel
theorem dX4_budgetCell_3 : decode cX4_budgetCell 3 = .ok (.iload_n 1, 1) := by decide +kernel
theorem dX4_budgetCell_4 : decode cX4_budgetCell 4 = .ok (.imul, 1) := by decide +kernel
theorem dX4_budgetCell_5 : decode cX4_budgetCell 5 = .ok (.iadd, 1) := by decide +kernel
theorem dX4_budgetCell_6 : decode cX4_budgetCell 6 = .ok (.iload_n 2, 1) := by decide +kernel
theorem dX4_budgetCell_7 : decode cX4_budgetCell 7 = .ok (.iadd, 1) := by decide +kernel
theorem dX4_budgetCell_8 : decode cX4_budgetCell 8 = .ok (.ireturn, 1) := by decide +kernel
theorem dX4_heardCell_0 : decode cX4_heardCell 0 = .ok (.bipush 95, 2) := by decide +kernel
theorem dX4_heardCell_2 : decode cX4_heardCell 2 = .ok (.iconst 4, 1) := by decide +kernel
theorem dX4_heardCell_3 : decode cX4_heardCell 3 = .ok (.iload_n 1, 1) := by decide +kernel
theorem dX4_heardCell_4 : decode cX4_heardCell 4 = .ok (.imul, 1) := by decide +kernel
theorem dX4_heardCell_5 : decode cX4_heardCell 5 = .ok (.iadd, 1) := by decide +kernel
theorem dX4_heardCell_6 : decode cX4_heardCell 6 = .ok (.iload_n 2, 1) := by decide +kernel
theorem dX4_heardCell_7 : decode cX4_heardCell 7 = .ok (.iadd, 1) := by decide +kernel
theorem dX4_heardCell_8 : decode cX4_heardCell 8 = .ok (.ireturn, 1) := by decide +kernel
theorem dX4_left_0 : decode cX4_left 0 = .ok (.aload_n 0, 1) := by decide +kernel
theorem dX4_left_1 : decode cX4_left 1 = .ok (.getfield 7, 3) := by decide +kernel
theorem dX4_left_4 : decode cX4_left 4 = .ok (.aload_n 0, 1) := by decide +kernel
theorem dX4_left_5 : decode cX4_left 5 = .ok (.iload_n 1, 1) := by decide +kernel
theorem dX4_left_6 : decode cX4_left 6 = .ok (.iload_n 2, 1) := by decide +kernel
theorem dX4_left_7 : decode cX4_left 7 = .ok (.invokevirtual 132, 3) := by decide +kernel
theorem dX4_left_10 : decode cX4_left 10 = .ok (.iaload, 1) := by decide +kernel
theorem dX4_left_11 : decode cX4_left 11 = .ok (.aload_n 0, 1) := by decide +kernel
theorem dX4_left_12 : decode cX4_left 12 = .ok (.iload_n 1, 1) := by decide +kernel
theorem dX4_left_13 : decode cX4_left 13 = .ok (.iload_n 2, 1) := by decide +kernel
theorem dX4_left_14 : decode cX4_left 14 = .ok (.invokevirtual 136, 3) := by decide +kernel
theorem dX4_left_17 : decode cX4_left 17 = .ok (.isub, 1) := by decide +kernel
theorem dX4_left_18 : decode cX4_left 18 = .ok (.ireturn, 1) := by decide +kernel
theorem dX4_slowCount_0 : decode cX4_slowCount 0 = .ok (.aload_n 0, 1) := by decide +kernel
theorem dX4_slowCount_1 : decode cX4_slowCount 1 = .ok (.getfield 7, 3) := by decide +kernel
theorem dX4_slowCount_4 : decode cX4_slowCount 4 = .ok (.bipush 87, 2) := by decide +kernel
theorem dX4_slowCount_6 : decode cX4_slowCount 6 = .ok (.iload_n 1, 1) := by decide +kernel
theorem dX4_slowCount_7 : decode cX4_slowCount 7 = .ok (.iadd, 1) := by decide +kernel
theorem dX4_slowCount_8 : decode cX4_slowCount 8 = .ok (.iaload, 1) := by decide +kernel
theorem dX4_slowCount_9 : decode cX4_slowCount 9 = .ok (.aload_n 0, 1) := by decide +kernel
theorem dX4_slowCount_10 : decode cX4_slowCount 10 = .ok (.getfield 7, 3) := by decide +kernel
theorem dX4_slowCount_13 : decode cX4_slowCount 13 = .ok (.bipush 91, 2) := by decide +kernel
theorem dX4_slowCount_15 : decode cX4_slowCount 15 = .ok (.iload_n 1, 1) := by decide +kernel
theorem dX4_slowCount_16 : decode cX4_slowCount 16 = .ok (.iadd, 1) := by decide +kernel
theorem dX4_slowCount_17 : decode cX4_slowCount 17 = .ok (.iaload, 1) := by decide +kernel
theorem dX4_slowCount_18 : decode cX4_slowCount 18 = .ok (.iconst (-1), 1) := by decide +kernel
theorem dX4_slowCount_19 : decode cX4_slowCount 19 = .ok (.ixor, 1) := by decide +kernel
theorem dX4_slowCount_20 : decode cX4_slowCount 20 = .ok (.iand, 1) := by decide +kernel
theorem dX4_slowCount_21 : decode cX4_slowCount 21 = .ok (.invokestatic 139, 3) := by decide +kernel
theorem dX4_slowCount_24 : decode cX4_slowCount 24 = .ok (.ireturn, 1) := by decide +kernel
theorem dX4_keepZeroFast_0 : decode cX4_keepZeroFast 0 = .ok (.aload_n 0, 1) := by decide +kernel
theorem dX4_keepZeroFast_1 : decode cX4_keepZeroFast 1 = .ok (.getfield 7, 3) := by decide +kernel
theorem dX4_keepZeroFast_4 : decode cX4_keepZeroFast 4 = .ok (.bipush 91, 2) := by decide +kernel
theorem dX4_keepZeroFast_6 : decode cX4_keepZeroFast 6 = .ok (.aload_n 0, 1) := by decide +kernel
theorem dX4_keepZeroFast_7 : decode cX4_keepZeroFast 7 = .ok (.getfield 7, 3) := by decide +kernel
theorem dX4_keepZeroFast_10 : decode cX4_keepZeroFast 10 = .ok (.bipush 87, 2) := by decide +kernel
theorem dX4_keepZeroFast_12 : decode cX4_keepZeroFast 12 = .ok (.iaload, 1) := by decide +kernel
theorem dX4_keepZeroFast_13 : decode cX4_keepZeroFast 13 = .ok (.iastore, 1) := by decide +kernel
theorem dX4_keepZeroFast_14 : decode cX4_keepZeroFast 14 = .ok (.return_, 1) := by decide +kernel
theorem dX4_push_0 : decode cX4_push 0 = .ok (.aload_n 0, 1) := by decide +kernel
theorem dX4_push_1 : decode cX4_push 1 = .ok (.getfield 7, 3) := by decide +kernel
theorem dX4_push_4 : decode cX4_push 4 = .ok (.bipush 87, 2) := by decide +kernel
theorem dX4_push_6 : decode cX4_push 6 = .ok (.iload_n 2, 1) := by decide +kernel
theorem dX4_push_7 : decode cX4_push 7 = .ok (.iadd, 1) := by decide +kernel
theorem dX4_push_8 : decode cX4_push 8 = .ok (.dup2, 1) := by decide +kernel
theorem dX4_push_9 : decode cX4_push 9 = .ok (.iaload, 1) := by decide +kernel
theorem dX4_push_10 : decode cX4_push 10 = .ok (.aload_n 0, 1) := by decide +kernel
theorem dX4_push_11 : decode cX4_push 11 = .ok (.iload_n 1, 1) := by decide +kernel
theorem dX4_push_12 : decode cX4_push 12 = .ok (.invokevirtual 126, 3) := by decide +kernel
theorem dX4_push_15 : decode cX4_push 15 = .ok (.ior, 1) := by decide +kernel
theorem dX4_push_16 : decode cX4_push 16 = .ok (.iastore, 1) := by decide +kernel
theorem dX4_push_17 : decode cX4_push 17 = .ok (.aload_n 0, 1) := by decide +kernel
theorem dX4_push_18 : decode cX4_push 18 = .ok (.getfield 7, 3) := by decide +kernel
theorem dX4_push_21 : decode cX4_push 21 = .ok (.aload_n 0, 1) := by decide +kernel
theorem dX4_push_22 : decode cX4_push 22 = .ok (.iload_n 2, 1) := by decide +kernel
theorem dX4_push_23 : decode cX4_push 23 = .ok (.iload_n 1, 1) := by decide +kernel
theorem dX4_push_24 : decode cX4_push 24 = .ok (.invokevirtual 142, 3) := by decide +kernel
theorem dX4_push_27 : decode cX4_push 27 = .ok (.aload_n 0, 1) := by decide +kernel
theorem dX4_push_28 : decode cX4_push 28 = .ok (.getfield 7, 3) := by decide +kernel
theorem dX4_push_31 : decode cX4_push 31 = .ok (.iconst 1, 1) := by decide +kernel
theorem dX4_push_32 : decode cX4_push 32 = .ok (.iaload, 1) := by decide +kernel
theorem dX4_push_33 : decode cX4_push 33 = .ok (.iastore, 1) := by decide +kernel
theorem dX4_push_34 : decode cX4_push 34 = .ok (.aload_n 0, 1) := by decide +kernel
theorem dX4_push_35 : decode cX4_push 35 = .ok (.invokevirtual 145, 3) := by decide +kernel
theorem dX4_push_38 : decode cX4_push 38 = .ok (.return_, 1) := by decide +kernel
theorem dX4_pull_0 : decode cX4_pull 0 = .ok (.aload_n 0, 1) := by decide +kernel
theorem dX4_pull_1 : decode cX4_pull 1 = .ok (.getfield 7, 3) := by decide +kernel
theorem dX4_pull_4 : decode cX4_pull 4 = .ok (.bipush 87, 2) := by decide +kernel
theorem dX4_pull_6 : decode cX4_pull 6 = .ok (.iload_n 1, 1) := by decide +kernel
theorem dX4_pull_7 : decode cX4_pull 7 = .ok (.iadd, 1) := by decide +kernel
theorem dX4_pull_8 : decode cX4_pull 8 = .ok (.dup2, 1) := by decide +kernel
theorem dX4_pull_9 : decode cX4_pull 9 = .ok (.iaload, 1) := by decide +kernel
theorem dX4_pull_10 : decode cX4_pull 10 = .ok (.aload_n 0, 1) := by decide +kernel
theorem dX4_pull_11 : decode cX4_pull 11 = .ok (.getfield 7, 3) := by decide +kernel
theorem dX4_pull_14 : decode cX4_pull 14 = .ok (.bipush 87, 2) := by decide +kernel
theorem dX4_pull_16 : decode cX4_pull 16 = .ok (.iload_n 2, 1) := by decide +kernel
theorem dX4_pull_17 : decode cX4_pull 17 = .ok (.iadd, 1) := by decide +kernel
theorem dX4_pull_18 : decode cX4_pull 18 = .ok (.iaload, 1) := by decide +kernel
theorem dX4_pull_19 : decode cX4_pull 19 = .ok (.ior, 1) := by decide +kernel
theorem dX4_pull_20 : decode cX4_pull 20 = .ok (.iastore, 1) := by decide +kernel
theorem dX4_pull_21 : decode cX4_pull 21 = .ok (.aload_n 0, 1) := by decide +kernel
theorem dX4_pull_22 : decode cX4_pull 22 = .ok (.getfield 7, 3) := by decide +kernel
theorem dX4_pull_25 : decode cX4_pull 25 = .ok (.bipush 91, 2) := by decide +kernel
theorem dX4_pull_27 : decode cX4_pull 27 = .ok (.iload_n 1, 1) := by decide +kernel
theorem dX4_pull_28 : decode cX4_pull 28 = .ok (.iadd, 1) := by decide +kernel
theorem dX4_pull_29 : decode cX4_pull 29 = .ok (.dup2, 1) := by decide +kernel
theorem dX4_pull_30 : decode cX4_pull 30 = .ok (.iaload, 1) := by decide +kernel
theorem dX4_pull_31 : decode cX4_pull 31 = .ok (.aload_n 0, 1) := by decide +kernel
theorem dX4_pull_32 : decode cX4_pull 32 = .ok (.getfield 7, 3) := by decide +kernel
theorem dX4_pull_35 : decode cX4_pull 35 = .ok (.bipush 91, 2) := by decide +kernel
theorem dX4_pull_37 : decode cX4_pull 37 = .ok (.iload_n 2, 1) := by decide +kernel
theorem dX4_pull_38 : decode cX4_pull 38 = .ok (.iadd, 1) := by decide +kernel
theorem dX4_pull_39 : decode cX4_pull 39 = .ok (.iaload, 1) := by decide +kernel
theorem dX4_pull_40 : decode cX4_pull 40 = .ok (.ior, 1) := by decide +kernel
theorem dX4_pull_41 : decode cX4_pull 41 = .ok (.iastore, 1) := by decide +kernel
theorem dX4_pull_42 : decode cX4_pull 42 = .ok (.aload_n 0, 1) := by decide +kernel
theorem dX4_pull_43 : decode cX4_pull 43 = .ok (.getfield 7, 3) := by decide +kernel
theorem dX4_pull_46 : decode cX4_pull 46 = .ok (.aload_n 0, 1) := by decide +kernel
theorem dX4_pull_47 : decode cX4_pull 47 = .ok (.iload_n 1, 1) := by decide +kernel
theorem dX4_pull_48 : decode cX4_pull 48 = .ok (.iload_n 2, 1) := by decide +kernel
theorem dX4_pull_49 : decode cX4_pull 49 = .ok (.invokevirtual 142, 3) := by decide +kernel
theorem dX4_pull_52 : decode cX4_pull 52 = .ok (.aload_n 0, 1) := by decide +kernel
theorem dX4_pull_53 : decode cX4_pull 53 = .ok (.getfield 7, 3) := by decide +kernel
theorem dX4_pull_56 : decode cX4_pull 56 = .ok (.iconst 1, 1) := by decide +kernel
theorem dX4_pull_57 : decode cX4_pull 57 = .ok (.iaload, 1) := by decide +kernel
theorem dX4_pull_58 : decode cX4_pull 58 = .ok (.iastore, 1) := by decide +kernel
theorem dX4_pull_59 : decode cX4_pull 59 = .ok (.iconst 0, 1) := by decide +kernel
theorem dX4_pull_60 : decode cX4_pull 60 = .ok (.istore_n 3, 1) := by decide +kernel
theorem dX4_pull_61 : decode cX4_pull 61 = .ok (.iload_n 3, 1) := by decide +kernel
theorem dX4_pull_62 : decode cX4_pull 62 = .ok (.aload_n 0, 1) := by decide +kernel
theorem dX4_pull_63 : decode cX4_pull 63 = .ok (.getfield 7, 3) := by decide +kernel
theorem dX4_pull_66 : decode cX4_pull 66 = .ok (.iconst 0, 1) := by decide +kernel
theorem dX4_pull_67 : decode cX4_pull 67 = .ok (.iaload, 1) := by decide +kernel
theorem dX4_pull_68 : decode cX4_pull 68 = .ok (.if_icmp .ge 87, 3) := by decide +kernel
theorem dX4_pull_71 : decode cX4_pull 71 = .ok (.aload_n 0, 1) := by decide +kernel
theorem dX4_pull_72 : decode cX4_pull 72 = .ok (.getfield 7, 3) := by decide +kernel
theorem dX4_pull_75 : decode cX4_pull 75 = .ok (.aload_n 0, 1) := by decide +kernel
theorem dX4_pull_76 : decode cX4_pull 76 = .ok (.iload_n 2, 1) := by decide +kernel
theorem dX4_pull_77 : decode cX4_pull 77 = .ok (.iload_n 3, 1) := by decide +kernel
theorem dX4_pull_78 : decode cX4_pull 78 = .ok (.invokevirtual 142, 3) := by decide +kernel
theorem dX4_pull_81 : decode cX4_pull 81 = .ok (.iaload, 1) := by decide +kernel
theorem dX4_pull_82 : decode cX4_pull 82 = .ok (.istore 4, 2) := by decide +kernel
theorem dX4_pull_84 : decode cX4_pull 84 = .ok (.iload_n 3, 1) := by decide +kernel
theorem dX4_pull_85 : decode cX4_pull 85 = .ok (.iload_n 1, 1) := by decide +kernel
theorem dX4_pull_86 : decode cX4_pull 86 = .ok (.if_icmp .eq 28, 3) := by decide +kernel
theorem dX4_pull_89 : decode cX4_pull 89 = .ok (.iload_n 3, 1) := by decide +kernel
theorem dX4_pull_90 : decode cX4_pull 90 = .ok (.iload_n 2, 1) := by decide +kernel
theorem dX4_pull_91 : decode cX4_pull 91 = .ok (.if_icmp .eq 23, 3) := by decide +kernel
theorem dX4_pull_94 : decode cX4_pull 94 = .ok (.iload 4, 2) := by decide +kernel
theorem dX4_pull_96 : decode cX4_pull 96 = .ok (.aload_n 0, 1) := by decide +kernel
theorem dX4_pull_97 : decode cX4_pull 97 = .ok (.getfield 7, 3) := by decide +kernel
theorem dX4_pull_100 : decode cX4_pull 100 = .ok (.aload_n 0, 1) := by decide +kernel
theorem dX4_pull_101 : decode cX4_pull 101 = .ok (.iload_n 1, 1) := by decide +kernel
theorem dX4_pull_102 : decode cX4_pull 102 = .ok (.iload_n 3, 1) := by decide +kernel
theorem dX4_pull_103 : decode cX4_pull 103 = .ok (.invokevirtual 142, 3) := by decide +kernel
theorem dX4_pull_106 : decode cX4_pull 106 = .ok (.iaload, 1) := by decide +kernel
theorem dX4_pull_107 : decode cX4_pull 107 = .ok (.if_icmp .le 7, 3) := by decide +kernel
theorem dX4_pull_110 : decode cX4_pull 110 = .ok (.iconst 1, 1) := by decide +kernel
theorem dX4_pull_111 : decode cX4_pull 111 = .ok (.goto 4, 3) := by decide +kernel
theorem dX4_pull_114 : decode cX4_pull 114 = .ok (.iconst 0, 1) := by decide +kernel
theorem dX4_pull_115 : decode cX4_pull 115 = .ok (.istore 5, 2) := by decide +kernel
theorem dX4_pull_117 : decode cX4_pull 117 = .ok (.aload_n 0, 1) := by decide +kernel
theorem dX4_pull_118 : decode cX4_pull 118 = .ok (.getfield 7, 3) := by decide +kernel
theorem dX4_pull_121 : decode cX4_pull 121 = .ok (.aload_n 0, 1) := by decide +kernel
theorem dX4_pull_122 : decode cX4_pull 122 = .ok (.iload_n 1, 1) := by decide +kernel
theorem dX4_pull_123 : decode cX4_pull 123 = .ok (.iload_n 3, 1) := by decide +kernel
theorem dX4_pull_124 : decode cX4_pull 124 = .ok (.invokevirtual 142, 3) := by decide +kernel
theorem dX4_pull_127 : decode cX4_pull 127 = .ok (.iload 5, 2) := by decide +kernel
theorem dX4_pull_129 : decode cX4_pull 129 = .ok (.ifCond .eq 8, 3) := by decide +kernel
theorem dX4_pull_132 : decode cX4_pull 132 = .ok (.iload 4, 2) := by decide +kernel
theorem dX4_pull_134 : decode cX4_pull 134 = .ok (.goto 14, 3) := by decide +kernel
theorem dX4_pull_137 : decode cX4_pull 137 = .ok (.aload_n 0, 1) := by decide +kernel
theorem dX4_pull_138 : decode cX4_pull 138 = .ok (.getfield 7, 3) := by decide +kernel
theorem dX4_pull_141 : decode cX4_pull 141 = .ok (.aload_n 0, 1) := by decide +kernel
theorem dX4_pull_142 : decode cX4_pull 142 = .ok (.iload_n 1, 1) := by decide +kernel
theorem dX4_pull_143 : decode cX4_pull 143 = .ok (.iload_n 3, 1) := by decide +kernel
theorem dX4_pull_144 : decode cX4_pull 144 = .ok (.invokevirtual 142, 3) := by decide +kernel
theorem dX4_pull_147 : decode cX4_pull 147 = .ok (.iaload, 1) := by decide +kernel
theorem dX4_pull_148 : decode cX4_pull 148 = .ok (.iastore, 1) := by decide +kernel
theorem dX4_pull_149 : decode cX4_pull 149 = .ok (.iinc 3 1, 3) := by decide +kernel
theorem dX4_pull_152 : decode cX4_pull 152 = .ok (.goto (-91), 3) := by decide +kernel
theorem dX4_pull_155 : decode cX4_pull 155 = .ok (.aload_n 0, 1) := by decide +kernel
theorem dX4_pull_156 : decode cX4_pull 156 = .ok (.invokevirtual 145, 3) := by decide +kernel
theorem dX4_pull_159 : decode cX4_pull 159 = .ok (.return_, 1) := by decide +kernel
theorem dX4_readBy_0 : decode cX4_readBy 0 = .ok (.iconst 0, 1) := by decide +kernel
theorem dX4_readBy_1 : decode cX4_readBy 1 = .ok (.istore_n 2, 1) := by decide +kernel
theorem dX4_readBy_2 : decode cX4_readBy 2 = .ok (.iconst 0, 1) := by decide +kernel
theorem dX4_readBy_3 : decode cX4_readBy 3 = .ok (.istore_n 3, 1) := by decide +kernel
theorem dX4_readBy_4 : decode cX4_readBy 4 = .ok (.iload_n 3, 1) := by decide +kernel
theorem dX4_readBy_5 : decode cX4_readBy 5 = .ok (.aload_n 0, 1) := by decide +kernel
theorem dX4_readBy_6 : decode cX4_readBy 6 = .ok (.getfield 7, 3) := by decide +kernel
theorem dX4_readBy_9 : decode cX4_readBy 9 = .ok (.iconst 0, 1) := by decide +kernel
theorem dX4_readBy_10 : decode cX4_readBy 10 = .ok (.iaload, 1) := by decide +kernel
theorem dX4_readBy_11 : decode cX4_readBy 11 = .ok (.if_icmp .ge 56, 3) := by decide +kernel
theorem dX4_readBy_14 : decode cX4_readBy 14 = .ok (.iload_n 3, 1) := by decide +kernel
theorem dX4_readBy_15 : decode cX4_readBy 15 = .ok (.iload_n 1, 1) := by decide +kernel
theorem dX4_readBy_16 : decode cX4_readBy 16 = .ok (.if_icmp .eq 45, 3) := by decide +kernel
theorem dX4_readBy_19 : decode cX4_readBy 19 = .ok (.aload_n 0, 1) := by decide +kernel
theorem dX4_readBy_20 : decode cX4_readBy 20 = .ok (.getfield 7, 3) := by decide +kernel
theorem dX4_readBy_23 : decode cX4_readBy 23 = .ok (.iconst 1, 1) := by decide +kernel
theorem dX4_readBy_24 : decode cX4_readBy 24 = .ok (.iaload, 1) := by decide +kernel
theorem dX4_readBy_25 : decode cX4_readBy 25 = .ok (.aload_n 0, 1) := by decide +kernel
theorem dX4_readBy_26 : decode cX4_readBy 26 = .ok (.getfield 7, 3) := by decide +kernel
theorem dX4_readBy_29 : decode cX4_readBy 29 = .ok (.aload_n 0, 1) := by decide +kernel
theorem dX4_readBy_30 : decode cX4_readBy 30 = .ok (.iload_n 1, 1) := by decide +kernel
theorem dX4_readBy_31 : decode cX4_readBy 31 = .ok (.iload_n 3, 1) := by decide +kernel
theorem dX4_readBy_32 : decode cX4_readBy 32 = .ok (.invokevirtual 142, 3) := by decide +kernel
theorem dX4_readBy_35 : decode cX4_readBy 35 = .ok (.iaload, 1) := by decide +kernel
theorem dX4_readBy_36 : decode cX4_readBy 36 = .ok (.isub, 1) := by decide +kernel
theorem dX4_readBy_37 : decode cX4_readBy 37 = .ok (.aload_n 0, 1) := by decide +kernel
theorem dX4_readBy_38 : decode cX4_readBy 38 = .ok (.getfield 7, 3) := by decide +kernel
theorem dX4_readBy_41 : decode cX4_readBy 41 = .ok (.iconst 2, 1) := by decide +kernel
theorem dX4_readBy_42 : decode cX4_readBy 42 = .ok (.iconst 3, 1) := by decide +kernel
theorem dX4_readBy_43 : decode cX4_readBy 43 = .ok (.iload_n 1, 1) := by decide +kernel
theorem dX4_readBy_44 : decode cX4_readBy 44 = .ok (.imul, 1) := by decide +kernel
theorem dX4_readBy_45 : decode cX4_readBy 45 = .ok (.iadd, 1) := by decide +kernel
theorem dX4_readBy_46 : decode cX4_readBy 46 = .ok (.iconst 2, 1) := by decide +kernel
theorem dX4_readBy_47 : decode cX4_readBy 47 = .ok (.iadd, 1) := by decide +kernel
theorem dX4_readBy_48 : decode cX4_readBy 48 = .ok (.iaload, 1) := by decide +kernel
theorem dX4_readBy_49 : decode cX4_readBy 49 = .ok (.if_icmp .le 12, 3) := by decide +kernel
theorem dX4_readBy_52 : decode cX4_readBy 52 = .ok (.aload_n 0, 1) := by decide +kernel
theorem dX4_readBy_53 : decode cX4_readBy 53 = .ok (.iload_n 1, 1) := by decide +kernel
theorem dX4_readBy_54 : decode cX4_readBy 54 = .ok (.iload_n 3, 1) := by decide +kernel
theorem dX4_readBy_55 : decode cX4_readBy 55 = .ok (.invokevirtual 148, 3) := by decide +kernel
theorem dX4_readBy_58 : decode cX4_readBy 58 = .ok (.iinc 2 1, 3) := by decide +kernel
theorem dX4_readBy_61 : decode cX4_readBy 61 = .ok (.iinc 3 1, 3) := by decide +kernel
theorem dX4_readBy_64 : decode cX4_readBy 64 = .ok (.goto (-60), 3) := by decide +kernel
theorem dX4_readBy_67 : decode cX4_readBy 67 = .ok (.aload_n 0, 1) := by decide +kernel
theorem dX4_readBy_68 : decode cX4_readBy 68 = .ok (.iload_n 1, 1) := by decide +kernel
theorem dX4_readBy_69 : decode cX4_readBy 69 = .ok (.invokevirtual 152, 3) := by decide +kernel
theorem dX4_readBy_72 : decode cX4_readBy 72 = .ok (.aload_n 0, 1) := by decide +kernel
theorem dX4_readBy_73 : decode cX4_readBy 73 = .ok (.getfield 7, 3) := by decide +kernel
theorem dX4_readBy_76 : decode cX4_readBy 76 = .ok (.iconst 2, 1) := by decide +kernel
theorem dX4_readBy_77 : decode cX4_readBy 77 = .ok (.iconst 3, 1) := by decide +kernel
theorem dX4_readBy_78 : decode cX4_readBy 78 = .ok (.iload_n 1, 1) := by decide +kernel
theorem dX4_readBy_79 : decode cX4_readBy 79 = .ok (.imul, 1) := by decide +kernel
theorem dX4_readBy_80 : decode cX4_readBy 80 = .ok (.iadd, 1) := by decide +kernel
theorem dX4_readBy_81 : decode cX4_readBy 81 = .ok (.iconst 1, 1) := by decide +kernel
theorem dX4_readBy_82 : decode cX4_readBy 82 = .ok (.iadd, 1) := by decide +kernel
theorem dX4_readBy_83 : decode cX4_readBy 83 = .ok (.iaload, 1) := by decide +kernel
theorem dX4_readBy_84 : decode cX4_readBy 84 = .ok (.if_icmp .le 18, 3) := by decide +kernel
theorem dX4_readBy_87 : decode cX4_readBy 87 = .ok (.aload_n 0, 1) := by decide +kernel
theorem dX4_readBy_88 : decode cX4_readBy 88 = .ok (.iconst 0, 1) := by decide +kernel
theorem dX4_readBy_89 : decode cX4_readBy 89 = .ok (.iload_n 1, 1) := by decide +kernel
theorem dX4_readBy_90 : decode cX4_readBy 90 = .ok (.invokevirtual 148, 3) := by decide +kernel
theorem dX4_readBy_93 : decode cX4_readBy 93 = .ok (.aload_n 0, 1) := by decide +kernel
theorem dX4_readBy_94 : decode cX4_readBy 94 = .ok (.iload_n 1, 1) := by decide +kernel
theorem dX4_readBy_95 : decode cX4_readBy 95 = .ok (.iconst 0, 1) := by decide +kernel
theorem dX4_readBy_96 : decode cX4_readBy 96 = .ok (.invokevirtual 148, 3) := by decide +kernel
theorem dX4_readBy_99 : decode cX4_readBy 99 = .ok (.iinc 2 2, 3) := by decide +kernel
theorem dX4_readBy_102 : decode cX4_readBy 102 = .ok (.iload_n 2, 1) := by decide +kernel
theorem dX4_readBy_103 : decode cX4_readBy 103 = .ok (.ireturn, 1) := by decide +kernel
theorem dX4_readCost_0 : decode cX4_readCost 0 = .ok (.aload_n 0, 1) := by decide +kernel
theorem dX4_readCost_1 : decode cX4_readCost 1 = .ok (.getfield 7, 3) := by decide +kernel
theorem dX4_readCost_4 : decode cX4_readCost 4 = .ok (.iconst 0, 1) := by decide +kernel
theorem dX4_readCost_5 : decode cX4_readCost 5 = .ok (.aload_n 0, 1) := by decide +kernel
theorem dX4_readCost_6 : decode cX4_readCost 6 = .ok (.getfield 16, 3) := by decide +kernel
theorem dX4_readCost_9 : decode cX4_readCost 9 = .ok (.iconst 0, 1) := by decide +kernel
theorem dX4_readCost_10 : decode cX4_readCost 10 = .ok (.invokestatic 45, 3) := by decide +kernel
theorem dX4_readCost_13 : decode cX4_readCost 13 = .ok (.aload_n 0, 1) := by decide +kernel
theorem dX4_readCost_14 : decode cX4_readCost 14 = .ok (.iload_n 1, 1) := by decide +kernel
theorem dX4_readCost_15 : decode cX4_readCost 15 = .ok (.invokevirtual 155, 3) := by decide +kernel
theorem dX4_readCost_18 : decode cX4_readCost 18 = .ok (.istore_n 2, 1) := by decide +kernel
theorem dX4_readCost_19 : decode cX4_readCost 19 = .ok (.aload_n 0, 1) := by decide +kernel
theorem dX4_readCost_20 : decode cX4_readCost 20 = .ok (.getfield 16, 3) := by decide +kernel
theorem dX4_readCost_23 : decode cX4_readCost 23 = .ok (.iconst 0, 1) := by decide +kernel
theorem dX4_readCost_24 : decode cX4_readCost 24 = .ok (.aload_n 0, 1) := by decide +kernel
theorem dX4_readCost_25 : decode cX4_readCost 25 = .ok (.getfield 7, 3) := by decide +kernel
theorem dX4_readCost_28 : decode cX4_readCost 28 = .ok (.iconst 0, 1) := by decide +kernel
theorem dX4_readCost_29 : decode cX4_readCost 29 = .ok (.invokestatic 45, 3) := by decide +kernel
theorem dX4_readCost_32 : decode cX4_readCost 32 = .ok (.iload_n 2, 1) := by decide +kernel
theorem dX4_readCost_33 : decode cX4_readCost 33 = .ok (.ireturn, 1) := by decide +kernel
theorem dX4_accepts_0 : decode cX4_accepts 0 = .ok (.aload_n 0, 1) := by decide +kernel
theorem dX4_accepts_1 : decode cX4_accepts 1 = .ok (.iload_n 1, 1) := by decide +kernel
theorem dX4_accepts_2 : decode cX4_accepts 2 = .ok (.invokevirtual 118, 3) := by decide +kernel
theorem dX4_accepts_5 : decode cX4_accepts 5 = .ok (.ifCond .eq 13, 3) := by decide +kernel
theorem dX4_accepts_8 : decode cX4_accepts 8 = .ok (.iload_n 2, 1) := by decide +kernel
theorem dX4_accepts_9 : decode cX4_accepts 9 = .ok (.iconst 1, 1) := by decide +kernel
theorem dX4_accepts_10 : decode cX4_accepts 10 = .ok (.bipush 9, 2) := by decide +kernel
theorem dX4_accepts_12 : decode cX4_accepts 12 = .ok (.invokestatic 63, 3) := by decide +kernel
theorem dX4_accepts_15 : decode cX4_accepts 15 = .ok (.ifCond .ne 5, 3) := by decide +kernel
theorem dX4_accepts_18 : decode cX4_accepts 18 = .ok (.iconst (-1), 1) := by decide +kernel
theorem dX4_accepts_19 : decode cX4_accepts 19 = .ok (.ireturn, 1) := by decide +kernel
theorem dX4_accepts_20 : decode cX4_accepts 20 = .ok (.aload_n 0, 1) := by decide +kernel
theorem dX4_accepts_21 : decode cX4_accepts 21 = .ok (.getfield 7, 3) := by decide +kernel
theorem dX4_accepts_24 : decode cX4_accepts 24 = .ok (.bipush 14, 2) := by decide +kernel
theorem dX4_accepts_26 : decode cX4_accepts 26 = .ok (.iaload, 1) := by decide +kernel
theorem dX4_accepts_27 : decode cX4_accepts 27 = .ok (.bipush 24, 2) := by decide +kernel
theorem dX4_accepts_29 : decode cX4_accepts 29 = .ok (.if_icmp .ne 6, 3) := by decide +kernel
theorem dX4_accepts_32 : decode cX4_accepts 32 = .ok (.bipush (-3), 2) := by decide +kernel
theorem dX4_accepts_34 : decode cX4_accepts 34 = .ok (.ireturn, 1) := by decide +kernel
theorem dX4_accepts_35 : decode cX4_accepts 35 = .ok (.aload_n 0, 1) := by decide +kernel
theorem dX4_accepts_36 : decode cX4_accepts 36 = .ok (.invokevirtual 115, 3) := by decide +kernel
theorem dX4_accepts_39 : decode cX4_accepts 39 = .ok (.aload_n 0, 1) := by decide +kernel
theorem dX4_accepts_40 : decode cX4_accepts 40 = .ok (.getfield 7, 3) := by decide +kernel
theorem dX4_accepts_43 : decode cX4_accepts 43 = .ok (.bipush 14, 2) := by decide +kernel
theorem dX4_accepts_45 : decode cX4_accepts 45 = .ok (.iaload, 1) := by decide +kernel
theorem dX4_accepts_46 : decode cX4_accepts 46 = .ok (.istore_n 3, 1) := by decide +kernel
theorem dX4_accepts_47 : decode cX4_accepts 47 = .ok (.aload_n 0, 1) := by decide +kernel
theorem dX4_accepts_48 : decode cX4_accepts 48 = .ok (.getfield 7, 3) := by decide +kernel
theorem dX4_accepts_51 : decode cX4_accepts 51 = .ok (.bipush 15, 2) := by decide +kernel
theorem dX4_accepts_53 : decode cX4_accepts 53 = .ok (.iconst 3, 1) := by decide +kernel
theorem dX4_accepts_54 : decode cX4_accepts 54 = .ok (.iload_n 3, 1) := by decide +kernel
theorem dX4_accepts_55 : decode cX4_accepts 55 = .ok (.imul, 1) := by decide +kernel
theorem dX4_accepts_56 : decode cX4_accepts 56 = .ok (.iadd, 1) := by decide +kernel
theorem dX4_accepts_57 : decode cX4_accepts 57 = .ok (.iload_n 1, 1) := by decide +kernel
theorem dX4_accepts_58 : decode cX4_accepts 58 = .ok (.iastore, 1) := by decide +kernel
theorem dX4_accepts_59 : decode cX4_accepts 59 = .ok (.aload_n 0, 1) := by decide +kernel
theorem dX4_accepts_60 : decode cX4_accepts 60 = .ok (.getfield 7, 3) := by decide +kernel
theorem dX4_accepts_63 : decode cX4_accepts 63 = .ok (.bipush 15, 2) := by decide +kernel
theorem dX4_accepts_65 : decode cX4_accepts 65 = .ok (.iconst 3, 1) := by decide +kernel
theorem dX4_accepts_66 : decode cX4_accepts 66 = .ok (.iload_n 3, 1) := by decide +kernel
theorem dX4_accepts_67 : decode cX4_accepts 67 = .ok (.imul, 1) := by decide +kernel
theorem dX4_accepts_68 : decode cX4_accepts 68 = .ok (.iadd, 1) := by decide +kernel
theorem dX4_accepts_69 : decode cX4_accepts 69 = .ok (.iconst 1, 1) := by decide +kernel
theorem dX4_accepts_70 : decode cX4_accepts 70 = .ok (.iadd, 1) := by decide +kernel
theorem dX4_accepts_71 : decode cX4_accepts 71 = .ok (.iload_n 2, 1) := by decide +kernel
theorem dX4_accepts_72 : decode cX4_accepts 72 = .ok (.iastore, 1) := by decide +kernel
theorem dX4_accepts_73 : decode cX4_accepts 73 = .ok (.aload_n 0, 1) := by decide +kernel
theorem dX4_accepts_74 : decode cX4_accepts 74 = .ok (.getfield 7, 3) := by decide +kernel
theorem dX4_accepts_77 : decode cX4_accepts 77 = .ok (.bipush 15, 2) := by decide +kernel
theorem dX4_accepts_79 : decode cX4_accepts 79 = .ok (.iconst 3, 1) := by decide +kernel
theorem dX4_accepts_80 : decode cX4_accepts 80 = .ok (.iload_n 3, 1) := by decide +kernel
theorem dX4_accepts_81 : decode cX4_accepts 81 = .ok (.imul, 1) := by decide +kernel
theorem dX4_accepts_82 : decode cX4_accepts 82 = .ok (.iadd, 1) := by decide +kernel
theorem dX4_accepts_83 : decode cX4_accepts 83 = .ok (.iconst 2, 1) := by decide +kernel
theorem dX4_accepts_84 : decode cX4_accepts 84 = .ok (.iadd, 1) := by decide +kernel
theorem dX4_accepts_85 : decode cX4_accepts 85 = .ok (.aload_n 0, 1) := by decide +kernel
theorem dX4_accepts_86 : decode cX4_accepts 86 = .ok (.getfield 7, 3) := by decide +kernel
theorem dX4_accepts_89 : decode cX4_accepts 89 = .ok (.iconst 1, 1) := by decide +kernel
theorem dX4_accepts_90 : decode cX4_accepts 90 = .ok (.iaload, 1) := by decide +kernel
theorem dX4_accepts_91 : decode cX4_accepts 91 = .ok (.iastore, 1) := by decide +kernel
theorem dX4_accepts_92 : decode cX4_accepts 92 = .ok (.aload_n 0, 1) := by decide +kernel
theorem dX4_accepts_93 : decode cX4_accepts 93 = .ok (.getfield 7, 3) := by decide +kernel
theorem dX4_accepts_96 : decode cX4_accepts 96 = .ok (.bipush 14, 2) := by decide +kernel
theorem dX4_accepts_98 : decode cX4_accepts 98 = .ok (.dup2, 1) := by decide +kernel
theorem dX4_accepts_99 : decode cX4_accepts 99 = .ok (.iaload, 1) := by decide +kernel
theorem dX4_accepts_100 : decode cX4_accepts 100 = .ok (.iconst 1, 1) := by decide +kernel
theorem dX4_accepts_101 : decode cX4_accepts 101 = .ok (.iadd, 1) := by decide +kernel
theorem dX4_accepts_102 : decode cX4_accepts 102 = .ok (.iastore, 1) := by decide +kernel
theorem dX4_accepts_103 : decode cX4_accepts 103 = .ok (.aload_n 0, 1) := by decide +kernel
theorem dX4_accepts_104 : decode cX4_accepts 104 = .ok (.getfield 7, 3) := by decide +kernel
theorem dX4_accepts_107 : decode cX4_accepts 107 = .ok (.bipush 87, 2) := by decide +kernel
theorem dX4_accepts_109 : decode cX4_accepts 109 = .ok (.iload_n 1, 1) := by decide +kernel
theorem dX4_accepts_110 : decode cX4_accepts 110 = .ok (.iadd, 1) := by decide +kernel
theorem dX4_accepts_111 : decode cX4_accepts 111 = .ok (.dup2, 1) := by decide +kernel
theorem dX4_accepts_112 : decode cX4_accepts 112 = .ok (.iaload, 1) := by decide +kernel
theorem dX4_accepts_113 : decode cX4_accepts 113 = .ok (.iconst 1, 1) := by decide +kernel
theorem dX4_accepts_114 : decode cX4_accepts 114 = .ok (.iload_n 3, 1) := by decide +kernel
theorem dX4_accepts_115 : decode cX4_accepts 115 = .ok (.ishl, 1) := by decide +kernel
theorem dX4_accepts_116 : decode cX4_accepts 116 = .ok (.ior, 1) := by decide +kernel
theorem dX4_accepts_117 : decode cX4_accepts 117 = .ok (.iastore, 1) := by decide +kernel
theorem dX4_accepts_118 : decode cX4_accepts 118 = .ok (.aload_n 0, 1) := by decide +kernel
theorem dX4_accepts_119 : decode cX4_accepts 119 = .ok (.invokevirtual 145, 3) := by decide +kernel
theorem dX4_accepts_122 : decode cX4_accepts 122 = .ok (.iconst 0, 1) := by decide +kernel
theorem dX4_accepts_123 : decode cX4_accepts 123 = .ok (.istore 4, 2) := by decide +kernel
theorem dX4_accepts_125 : decode cX4_accepts 125 = .ok (.iconst 0, 1) := by decide +kernel
theorem dX4_accepts_126 : decode cX4_accepts 126 = .ok (.istore 5, 2) := by decide +kernel
theorem dX4_accepts_128 : decode cX4_accepts 128 = .ok (.iload 5, 2) := by decide +kernel
theorem dX4_accepts_130 : decode cX4_accepts 130 = .ok (.aload_n 0, 1) := by decide +kernel
theorem dX4_accepts_131 : decode cX4_accepts 131 = .ok (.getfield 7, 3) := by decide +kernel
theorem dX4_accepts_134 : decode cX4_accepts 134 = .ok (.iconst 0, 1) := by decide +kernel
theorem dX4_accepts_135 : decode cX4_accepts 135 = .ok (.iaload, 1) := by decide +kernel
theorem dX4_accepts_136 : decode cX4_accepts 136 = .ok (.if_icmp .ge 35, 3) := by decide +kernel
theorem dX4_accepts_139 : decode cX4_accepts 139 = .ok (.iload 5, 2) := by decide +kernel
theorem dX4_accepts_141 : decode cX4_accepts 141 = .ok (.iload_n 1, 1) := by decide +kernel
theorem dX4_accepts_142 : decode cX4_accepts 142 = .ok (.if_icmp .eq 23, 3) := by decide +kernel
theorem dX4_accepts_145 : decode cX4_accepts 145 = .ok (.aload_n 0, 1) := by decide +kernel
theorem dX4_accepts_146 : decode cX4_accepts 146 = .ok (.iload_n 1, 1) := by decide +kernel
theorem dX4_accepts_147 : decode cX4_accepts 147 = .ok (.iload 5, 2) := by decide +kernel
theorem dX4_accepts_149 : decode cX4_accepts 149 = .ok (.invokevirtual 158, 3) := by decide +kernel
theorem dX4_accepts_152 : decode cX4_accepts 152 = .ok (.ifCond .ge 13, 3) := by decide +kernel
theorem dX4_accepts_155 : decode cX4_accepts 155 = .ok (.aload_n 0, 1) := by decide +kernel
theorem dX4_accepts_156 : decode cX4_accepts 156 = .ok (.iload_n 1, 1) := by decide +kernel
theorem dX4_accepts_157 : decode cX4_accepts 157 = .ok (.iload 5, 2) := by decide +kernel
theorem dX4_accepts_159 : decode cX4_accepts 159 = .ok (.invokevirtual 161, 3) := by decide +kernel
theorem dX4_accepts_162 : decode cX4_accepts 162 = .ok (.iinc 4 1, 3) := by decide +kernel
theorem dX4_accepts_165 : decode cX4_accepts 165 = .ok (.iinc 5 1, 3) := by decide +kernel
theorem dX4_accepts_168 : decode cX4_accepts 168 = .ok (.goto (-40), 3) := by decide +kernel
theorem dX4_accepts_171 : decode cX4_accepts 171 = .ok (.iload 4, 2) := by decide +kernel
theorem dX4_accepts_173 : decode cX4_accepts 173 = .ok (.ireturn, 1) := by decide +kernel
theorem dX4_passes_0 : decode cX4_passes 0 = .ok (.iload_n 1, 1) := by decide +kernel
theorem dX4_passes_1 : decode cX4_passes 1 = .ok (.iconst 1, 1) := by decide +kernel
theorem dX4_passes_2 : decode cX4_passes 2 = .ok (.bipush 99, 2) := by decide +kernel
theorem dX4_passes_4 : decode cX4_passes 4 = .ok (.invokestatic 63, 3) := by decide +kernel
theorem dX4_passes_7 : decode cX4_passes 7 = .ok (.ifCond .ne 5, 3) := by decide +kernel
theorem dX4_passes_10 : decode cX4_passes 10 = .ok (.iconst (-1), 1) := by decide +kernel
theorem dX4_passes_11 : decode cX4_passes 11 = .ok (.ireturn, 1) := by decide +kernel
theorem dX4_passes_12 : decode cX4_passes 12 = .ok (.aload_n 0, 1) := by decide +kernel
theorem dX4_passes_13 : decode cX4_passes 13 = .ok (.getfield 7, 3) := by decide +kernel
theorem dX4_passes_16 : decode cX4_passes 16 = .ok (.iconst 1, 1) := by decide +kernel
theorem dX4_passes_17 : decode cX4_passes 17 = .ok (.iaload, 1) := by decide +kernel
theorem dX4_passes_18 : decode cX4_passes 18 = .ok (.iload_n 1, 1) := by decide +kernel
theorem dX4_passes_19 : decode cX4_passes 19 = .ok (.iadd, 1) := by decide +kernel
theorem dX4_passes_20 : decode cX4_passes 20 = .ok (.sipush 999, 3) := by decide +kernel
theorem dX4_passes_23 : decode cX4_passes 23 = .ok (.if_icmp .le 6, 3) := by decide +kernel
theorem dX4_passes_26 : decode cX4_passes 26 = .ok (.bipush (-2), 2) := by decide +kernel
theorem dX4_passes_28 : decode cX4_passes 28 = .ok (.ireturn, 1) := by decide +kernel
theorem dX4_passes_29 : decode cX4_passes 29 = .ok (.aload_n 0, 1) := by decide +kernel
theorem dX4_passes_30 : decode cX4_passes 30 = .ok (.invokevirtual 115, 3) := by decide +kernel
theorem dX4_passes_33 : decode cX4_passes 33 = .ok (.aload_n 0, 1) := by decide +kernel
theorem dX4_passes_34 : decode cX4_passes 34 = .ok (.getfield 7, 3) := by decide +kernel
theorem dX4_passes_37 : decode cX4_passes 37 = .ok (.iconst 1, 1) := by decide +kernel
theorem dX4_passes_38 : decode cX4_passes 38 = .ok (.dup2, 1) := by decide +kernel
theorem dX4_passes_39 : decode cX4_passes 39 = .ok (.iaload, 1) := by decide +kernel
theorem dX4_passes_40 : decode cX4_passes 40 = .ok (.iload_n 1, 1) := by decide +kernel
theorem dX4_passes_41 : decode cX4_passes 41 = .ok (.iadd, 1) := by decide +kernel
theorem dX4_passes_42 : decode cX4_passes 42 = .ok (.iastore, 1) := by decide +kernel
theorem dX4_passes_43 : decode cX4_passes 43 = .ok (.aload_n 0, 1) := by decide +kernel
theorem dX4_passes_44 : decode cX4_passes 44 = .ok (.getfield 7, 3) := by decide +kernel
theorem dX4_passes_47 : decode cX4_passes 47 = .ok (.iconst 1, 1) := by decide +kernel
theorem dX4_passes_48 : decode cX4_passes 48 = .ok (.iaload, 1) := by decide +kernel
theorem dX4_passes_49 : decode cX4_passes 49 = .ok (.ireturn, 1) := by decide +kernel
theorem dX4_pulls_0 : decode cX4_pulls 0 = .ok (.aload_n 0, 1) := by decide +kernel
theorem dX4_pulls_1 : decode cX4_pulls 1 = .ok (.iload_n 1, 1) := by decide +kernel
theorem dX4_pulls_2 : decode cX4_pulls 2 = .ok (.iload_n 2, 1) := by decide +kernel
theorem dX4_pulls_3 : decode cX4_pulls 3 = .ok (.invokevirtual 164, 3) := by decide +kernel
theorem dX4_pulls_6 : decode cX4_pulls 6 = .ok (.ifCond .ne 5, 3) := by decide +kernel
theorem dX4_pulls_9 : decode cX4_pulls 9 = .ok (.iconst (-1), 1) := by decide +kernel
theorem dX4_pulls_10 : decode cX4_pulls 10 = .ok (.ireturn, 1) := by decide +kernel
theorem dX4_pulls_11 : decode cX4_pulls 11 = .ok (.aload_n 0, 1) := by decide +kernel
theorem dX4_pulls_12 : decode cX4_pulls 12 = .ok (.invokevirtual 115, 3) := by decide +kernel
theorem dX4_pulls_15 : decode cX4_pulls 15 = .ok (.aload_n 0, 1) := by decide +kernel
theorem dX4_pulls_16 : decode cX4_pulls 16 = .ok (.getfield 7, 3) := by decide +kernel
theorem dX4_pulls_19 : decode cX4_pulls 19 = .ok (.bipush 87, 2) := by decide +kernel
theorem dX4_pulls_21 : decode cX4_pulls 21 = .ok (.iload_n 1, 1) := by decide +kernel
theorem dX4_pulls_22 : decode cX4_pulls 22 = .ok (.iadd, 1) := by decide +kernel
theorem dX4_pulls_23 : decode cX4_pulls 23 = .ok (.iaload, 1) := by decide +kernel
theorem dX4_pulls_24 : decode cX4_pulls 24 = .ok (.invokestatic 139, 3) := by decide +kernel
theorem dX4_pulls_27 : decode cX4_pulls 27 = .ok (.istore_n 3, 1) := by decide +kernel
theorem dX4_pulls_28 : decode cX4_pulls 28 = .ok (.aload_n 0, 1) := by decide +kernel
theorem dX4_pulls_29 : decode cX4_pulls 29 = .ok (.iload_n 1, 1) := by decide +kernel
theorem dX4_pulls_30 : decode cX4_pulls 30 = .ok (.iload_n 2, 1) := by decide +kernel
theorem dX4_pulls_31 : decode cX4_pulls 31 = .ok (.invokevirtual 148, 3) := by decide +kernel
theorem dX4_pulls_34 : decode cX4_pulls 34 = .ok (.aload_n 0, 1) := by decide +kernel
theorem dX4_pulls_35 : decode cX4_pulls 35 = .ok (.getfield 7, 3) := by decide +kernel
theorem dX4_pulls_38 : decode cX4_pulls 38 = .ok (.bipush 87, 2) := by decide +kernel
theorem dX4_pulls_40 : decode cX4_pulls 40 = .ok (.iload_n 1, 1) := by decide +kernel
theorem dX4_pulls_41 : decode cX4_pulls 41 = .ok (.iadd, 1) := by decide +kernel
theorem dX4_pulls_42 : decode cX4_pulls 42 = .ok (.iaload, 1) := by decide +kernel
theorem dX4_pulls_43 : decode cX4_pulls 43 = .ok (.invokestatic 139, 3) := by decide +kernel
theorem dX4_pulls_46 : decode cX4_pulls 46 = .ok (.iload_n 3, 1) := by decide +kernel
theorem dX4_pulls_47 : decode cX4_pulls 47 = .ok (.isub, 1) := by decide +kernel
theorem dX4_pulls_48 : decode cX4_pulls 48 = .ok (.ireturn, 1) := by decide +kernel
theorem dX4_reads_0 : decode cX4_reads 0 = .ok (.aload_n 0, 1) := by decide +kernel
theorem dX4_reads_1 : decode cX4_reads 1 = .ok (.iload_n 1, 1) := by decide +kernel
theorem dX4_reads_2 : decode cX4_reads 2 = .ok (.invokevirtual 118, 3) := by decide +kernel
theorem dX4_reads_5 : decode cX4_reads 5 = .ok (.ifCond .ne 5, 3) := by decide +kernel
theorem dX4_reads_8 : decode cX4_reads 8 = .ok (.iconst (-1), 1) := by decide +kernel
theorem dX4_reads_9 : decode cX4_reads 9 = .ok (.ireturn, 1) := by decide +kernel
theorem dX4_reads_10 : decode cX4_reads 10 = .ok (.aload_n 0, 1) := by decide +kernel
theorem dX4_reads_11 : decode cX4_reads 11 = .ok (.invokevirtual 115, 3) := by decide +kernel
theorem dX4_reads_14 : decode cX4_reads 14 = .ok (.aload_n 0, 1) := by decide +kernel
theorem dX4_reads_15 : decode cX4_reads 15 = .ok (.iload_n 1, 1) := by decide +kernel
theorem dX4_reads_16 : decode cX4_reads 16 = .ok (.invokevirtual 155, 3) := by decide +kernel
theorem dX4_reads_19 : decode cX4_reads 19 = .ok (.ireturn, 1) := by decide +kernel
theorem dX4_moves_0 : decode cX4_moves 0 = .ok (.aload_n 0, 1) := by decide +kernel
theorem dX4_moves_1 : decode cX4_moves 1 = .ok (.iload_n 1, 1) := by decide +kernel
theorem dX4_moves_2 : decode cX4_moves 2 = .ok (.iload_n 2, 1) := by decide +kernel
theorem dX4_moves_3 : decode cX4_moves 3 = .ok (.invokevirtual 164, 3) := by decide +kernel
theorem dX4_moves_6 : decode cX4_moves 6 = .ok (.ifCond .eq 28, 3) := by decide +kernel
theorem dX4_moves_9 : decode cX4_moves 9 = .ok (.aload_n 0, 1) := by decide +kernel
theorem dX4_moves_10 : decode cX4_moves 10 = .ok (.iload_n 1, 1) := by decide +kernel
theorem dX4_moves_11 : decode cX4_moves 11 = .ok (.iload_n 3, 1) := by decide +kernel
theorem dX4_moves_12 : decode cX4_moves 12 = .ok (.invokevirtual 164, 3) := by decide +kernel
theorem dX4_moves_15 : decode cX4_moves 15 = .ok (.ifCond .eq 19, 3) := by decide +kernel
theorem dX4_moves_18 : decode cX4_moves 18 = .ok (.iload_n 2, 1) := by decide +kernel
theorem dX4_moves_19 : decode cX4_moves 19 = .ok (.iload_n 3, 1) := by decide +kernel
theorem dX4_moves_20 : decode cX4_moves 20 = .ok (.if_icmp .eq 14, 3) := by decide +kernel
theorem dX4_moves_23 : decode cX4_moves 23 = .ok (.iload 4, 2) := by decide +kernel
theorem dX4_moves_25 : decode cX4_moves 25 = .ok (.iconst 1, 1) := by decide +kernel
theorem dX4_moves_26 : decode cX4_moves 26 = .ok (.bipush 99, 2) := by decide +kernel
theorem dX4_moves_28 : decode cX4_moves 28 = .ok (.invokestatic 63, 3) := by decide +kernel
theorem dX4_moves_31 : decode cX4_moves 31 = .ok (.ifCond .ne 5, 3) := by decide +kernel
theorem dX4_moves_34 : decode cX4_moves 34 = .ok (.iconst (-1), 1) := by decide +kernel
theorem dX4_moves_35 : decode cX4_moves 35 = .ok (.ireturn, 1) := by decide +kernel
theorem dX4_moves_36 : decode cX4_moves 36 = .ok (.aload_n 0, 1) := by decide +kernel
theorem dX4_moves_37 : decode cX4_moves 37 = .ok (.iload_n 2, 1) := by decide +kernel
theorem dX4_moves_38 : decode cX4_moves 38 = .ok (.iload_n 1, 1) := by decide +kernel
theorem dX4_moves_39 : decode cX4_moves 39 = .ok (.invokevirtual 158, 3) := by decide +kernel
theorem dX4_moves_42 : decode cX4_moves 42 = .ok (.iload 4, 2) := by decide +kernel
theorem dX4_moves_44 : decode cX4_moves 44 = .ok (.if_icmp .ge 6, 3) := by decide +kernel
theorem dX4_moves_47 : decode cX4_moves 47 = .ok (.bipush (-2), 2) := by decide +kernel
theorem dX4_moves_49 : decode cX4_moves 49 = .ok (.ireturn, 1) := by decide +kernel
theorem dX4_moves_50 : decode cX4_moves 50 = .ok (.aload_n 0, 1) := by decide +kernel
theorem dX4_moves_51 : decode cX4_moves 51 = .ok (.invokevirtual 115, 3) := by decide +kernel
theorem dX4_moves_54 : decode cX4_moves 54 = .ok (.aload_n 0, 1) := by decide +kernel
theorem dX4_moves_55 : decode cX4_moves 55 = .ok (.getfield 7, 3) := by decide +kernel
theorem dX4_moves_58 : decode cX4_moves 58 = .ok (.aload_n 0, 1) := by decide +kernel
theorem dX4_moves_59 : decode cX4_moves 59 = .ok (.iload_n 2, 1) := by decide +kernel
theorem dX4_moves_60 : decode cX4_moves 60 = .ok (.iload_n 1, 1) := by decide +kernel
theorem dX4_moves_61 : decode cX4_moves 61 = .ok (.invokevirtual 132, 3) := by decide +kernel
theorem dX4_moves_64 : decode cX4_moves 64 = .ok (.dup2, 1) := by decide +kernel
theorem dX4_moves_65 : decode cX4_moves 65 = .ok (.iaload, 1) := by decide +kernel
theorem dX4_moves_66 : decode cX4_moves 66 = .ok (.iload 4, 2) := by decide +kernel
theorem dX4_moves_68 : decode cX4_moves 68 = .ok (.isub, 1) := by decide +kernel
theorem dX4_moves_69 : decode cX4_moves 69 = .ok (.iastore, 1) := by decide +kernel
theorem dX4_moves_70 : decode cX4_moves 70 = .ok (.aload_n 0, 1) := by decide +kernel
theorem dX4_moves_71 : decode cX4_moves 71 = .ok (.getfield 7, 3) := by decide +kernel
theorem dX4_moves_74 : decode cX4_moves 74 = .ok (.aload_n 0, 1) := by decide +kernel
theorem dX4_moves_75 : decode cX4_moves 75 = .ok (.iload_n 3, 1) := by decide +kernel
theorem dX4_moves_76 : decode cX4_moves 76 = .ok (.iload_n 1, 1) := by decide +kernel
theorem dX4_moves_77 : decode cX4_moves 77 = .ok (.invokevirtual 132, 3) := by decide +kernel
theorem dX4_moves_80 : decode cX4_moves 80 = .ok (.dup2, 1) := by decide +kernel
theorem dX4_moves_81 : decode cX4_moves 81 = .ok (.iaload, 1) := by decide +kernel
theorem dX4_moves_82 : decode cX4_moves 82 = .ok (.iload 4, 2) := by decide +kernel
theorem dX4_moves_84 : decode cX4_moves 84 = .ok (.iadd, 1) := by decide +kernel
theorem dX4_moves_85 : decode cX4_moves 85 = .ok (.iastore, 1) := by decide +kernel
theorem dX4_moves_86 : decode cX4_moves 86 = .ok (.aload_n 0, 1) := by decide +kernel
theorem dX4_moves_87 : decode cX4_moves 87 = .ok (.getfield 7, 3) := by decide +kernel
theorem dX4_moves_90 : decode cX4_moves 90 = .ok (.aload_n 0, 1) := by decide +kernel
theorem dX4_moves_91 : decode cX4_moves 91 = .ok (.iload_n 2, 1) := by decide +kernel
theorem dX4_moves_92 : decode cX4_moves 92 = .ok (.iload_n 1, 1) := by decide +kernel
theorem dX4_moves_93 : decode cX4_moves 93 = .ok (.invokevirtual 132, 3) := by decide +kernel
theorem dX4_moves_96 : decode cX4_moves 96 = .ok (.iaload, 1) := by decide +kernel
theorem dX4_moves_97 : decode cX4_moves 97 = .ok (.ireturn, 1) := by decide +kernel
theorem dX4_evens_0 : decode cX4_evens 0 = .ok (.aload_n 0, 1) := by decide +kernel
theorem dX4_evens_1 : decode cX4_evens 1 = .ok (.iload_n 1, 1) := by decide +kernel
theorem dX4_evens_2 : decode cX4_evens 2 = .ok (.invokevirtual 118, 3) := by decide +kernel
theorem dX4_evens_5 : decode cX4_evens 5 = .ok (.ifCond .ne 5, 3) := by decide +kernel
theorem dX4_evens_8 : decode cX4_evens 8 = .ok (.iconst (-1), 1) := by decide +kernel
theorem dX4_evens_9 : decode cX4_evens 9 = .ok (.ireturn, 1) := by decide +kernel
theorem dX4_evens_10 : decode cX4_evens 10 = .ok (.aload_n 0, 1) := by decide +kernel
theorem dX4_evens_11 : decode cX4_evens 11 = .ok (.invokevirtual 115, 3) := by decide +kernel
theorem dX4_evens_14 : decode cX4_evens 14 = .ok (.iconst 0, 1) := by decide +kernel
theorem dX4_evens_15 : decode cX4_evens 15 = .ok (.istore_n 2, 1) := by decide +kernel
theorem dX4_evens_16 : decode cX4_evens 16 = .ok (.iconst 0, 1) := by decide +kernel
theorem dX4_evens_17 : decode cX4_evens 17 = .ok (.istore_n 3, 1) := by decide +kernel
theorem dX4_evens_18 : decode cX4_evens 18 = .ok (.iload_n 3, 1) := by decide +kernel
theorem dX4_evens_19 : decode cX4_evens 19 = .ok (.aload_n 0, 1) := by decide +kernel
theorem dX4_evens_20 : decode cX4_evens 20 = .ok (.getfield 7, 3) := by decide +kernel
theorem dX4_evens_23 : decode cX4_evens 23 = .ok (.iconst 0, 1) := by decide +kernel
theorem dX4_evens_24 : decode cX4_evens 24 = .ok (.iaload, 1) := by decide +kernel
theorem dX4_evens_25 : decode cX4_evens 25 = .ok (.if_icmp .ge 27, 3) := by decide +kernel
theorem dX4_evens_28 : decode cX4_evens 28 = .ok (.iload_n 2, 1) := by decide +kernel
theorem dX4_evens_29 : decode cX4_evens 29 = .ok (.iload_n 3, 1) := by decide +kernel
theorem dX4_evens_30 : decode cX4_evens 30 = .ok (.iload_n 1, 1) := by decide +kernel
theorem dX4_evens_31 : decode cX4_evens 31 = .ok (.if_icmp .ne 7, 3) := by decide +kernel
theorem dX4_evens_34 : decode cX4_evens 34 = .ok (.iconst 0, 1) := by decide +kernel
theorem dX4_evens_35 : decode cX4_evens 35 = .ok (.goto 9, 3) := by decide +kernel
theorem dX4_evens_38 : decode cX4_evens 38 = .ok (.aload_n 0, 1) := by decide +kernel
theorem dX4_evens_39 : decode cX4_evens 39 = .ok (.iload_n 3, 1) := by decide +kernel
theorem dX4_evens_40 : decode cX4_evens 40 = .ok (.iload_n 1, 1) := by decide +kernel
theorem dX4_evens_41 : decode cX4_evens 41 = .ok (.invokevirtual 158, 3) := by decide +kernel
theorem dX4_evens_44 : decode cX4_evens 44 = .ok (.iadd, 1) := by decide +kernel
theorem dX4_evens_45 : decode cX4_evens 45 = .ok (.istore_n 2, 1) := by decide +kernel
theorem dX4_evens_46 : decode cX4_evens 46 = .ok (.iinc 3 1, 3) := by decide +kernel
theorem dX4_evens_49 : decode cX4_evens 49 = .ok (.goto (-31), 3) := by decide +kernel
theorem dX4_evens_52 : decode cX4_evens 52 = .ok (.aload_n 0, 1) := by decide +kernel
theorem dX4_evens_53 : decode cX4_evens 53 = .ok (.getfield 7, 3) := by decide +kernel
theorem dX4_evens_56 : decode cX4_evens 56 = .ok (.iconst 0, 1) := by decide +kernel
theorem dX4_evens_57 : decode cX4_evens 57 = .ok (.iaload, 1) := by decide +kernel
theorem dX4_evens_58 : decode cX4_evens 58 = .ok (.iconst 1, 1) := by decide +kernel
theorem dX4_evens_59 : decode cX4_evens 59 = .ok (.isub, 1) := by decide +kernel
theorem dX4_evens_60 : decode cX4_evens 60 = .ok (.istore_n 3, 1) := by decide +kernel
theorem dX4_evens_61 : decode cX4_evens 61 = .ok (.iload_n 2, 1) := by decide +kernel
theorem dX4_evens_62 : decode cX4_evens 62 = .ok (.iload_n 3, 1) := by decide +kernel
theorem dX4_evens_63 : decode cX4_evens 63 = .ok (.irem, 1) := by decide +kernel
theorem dX4_evens_64 : decode cX4_evens 64 = .ok (.istore 4, 2) := by decide +kernel
theorem dX4_evens_66 : decode cX4_evens 66 = .ok (.iconst 0, 1) := by decide +kernel
theorem dX4_evens_67 : decode cX4_evens 67 = .ok (.istore 5, 2) := by decide +kernel
theorem dX4_evens_69 : decode cX4_evens 69 = .ok (.iload 5, 2) := by decide +kernel
theorem dX4_evens_71 : decode cX4_evens 71 = .ok (.aload_n 0, 1) := by decide +kernel
theorem dX4_evens_72 : decode cX4_evens 72 = .ok (.getfield 7, 3) := by decide +kernel
theorem dX4_evens_75 : decode cX4_evens 75 = .ok (.iconst 0, 1) := by decide +kernel
theorem dX4_evens_76 : decode cX4_evens 76 = .ok (.iaload, 1) := by decide +kernel
theorem dX4_evens_77 : decode cX4_evens 77 = .ok (.if_icmp .ge 52, 3) := by decide +kernel
theorem dX4_evens_80 : decode cX4_evens 80 = .ok (.iload 5, 2) := by decide +kernel
theorem dX4_evens_82 : decode cX4_evens 82 = .ok (.iload_n 1, 1) := by decide +kernel
theorem dX4_evens_83 : decode cX4_evens 83 = .ok (.if_icmp .eq 40, 3) := by decide +kernel
theorem dX4_evens_86 : decode cX4_evens 86 = .ok (.aload_n 0, 1) := by decide +kernel
theorem dX4_evens_87 : decode cX4_evens 87 = .ok (.getfield 7, 3) := by decide +kernel
theorem dX4_evens_90 : decode cX4_evens 90 = .ok (.aload_n 0, 1) := by decide +kernel
theorem dX4_evens_91 : decode cX4_evens 91 = .ok (.iload 5, 2) := by decide +kernel
theorem dX4_evens_93 : decode cX4_evens 93 = .ok (.iload_n 1, 1) := by decide +kernel
theorem dX4_evens_94 : decode cX4_evens 94 = .ok (.invokevirtual 132, 3) := by decide +kernel
theorem dX4_evens_97 : decode cX4_evens 97 = .ok (.aload_n 0, 1) := by decide +kernel
theorem dX4_evens_98 : decode cX4_evens 98 = .ok (.iload 5, 2) := by decide +kernel
theorem dX4_evens_100 : decode cX4_evens 100 = .ok (.iload_n 1, 1) := by decide +kernel
theorem dX4_evens_101 : decode cX4_evens 101 = .ok (.invokevirtual 136, 3) := by decide +kernel
theorem dX4_evens_104 : decode cX4_evens 104 = .ok (.iload_n 2, 1) := by decide +kernel
theorem dX4_evens_105 : decode cX4_evens 105 = .ok (.iload_n 3, 1) := by decide +kernel
theorem dX4_evens_106 : decode cX4_evens 106 = .ok (.idiv, 1) := by decide +kernel
theorem dX4_evens_107 : decode cX4_evens 107 = .ok (.iadd, 1) := by decide +kernel
theorem dX4_evens_108 : decode cX4_evens 108 = .ok (.iload 4, 2) := by decide +kernel
theorem dX4_evens_110 : decode cX4_evens 110 = .ok (.ifCond .le 7, 3) := by decide +kernel
theorem dX4_evens_113 : decode cX4_evens 113 = .ok (.iconst 1, 1) := by decide +kernel
theorem dX4_evens_114 : decode cX4_evens 114 = .ok (.goto 4, 3) := by decide +kernel
theorem dX4_evens_117 : decode cX4_evens 117 = .ok (.iconst 0, 1) := by decide +kernel
theorem dX4_evens_118 : decode cX4_evens 118 = .ok (.iadd, 1) := by decide +kernel
theorem dX4_evens_119 : decode cX4_evens 119 = .ok (.iastore, 1) := by decide +kernel
theorem dX4_evens_120 : decode cX4_evens 120 = .ok (.iinc 4 (-1), 3) := by decide +kernel
theorem dX4_evens_123 : decode cX4_evens 123 = .ok (.iinc 5 1, 3) := by decide +kernel
theorem dX4_evens_126 : decode cX4_evens 126 = .ok (.goto (-57), 3) := by decide +kernel
theorem dX4_evens_129 : decode cX4_evens 129 = .ok (.iload_n 2, 1) := by decide +kernel
theorem dX4_evens_130 : decode cX4_evens 130 = .ok (.ireturn, 1) := by decide +kernel
theorem dX4_bounds_0 : decode cX4_bounds 0 = .ok (.aload_n 0, 1) := by decide +kernel
theorem dX4_bounds_1 : decode cX4_bounds 1 = .ok (.iload_n 1, 1) := by decide +kernel
theorem dX4_bounds_2 : decode cX4_bounds 2 = .ok (.invokevirtual 118, 3) := by decide +kernel
theorem dX4_bounds_5 : decode cX4_bounds 5 = .ok (.ifCond .eq 34, 3) := by decide +kernel
theorem dX4_bounds_8 : decode cX4_bounds 8 = .ok (.iload_n 2, 1) := by decide +kernel
theorem dX4_bounds_9 : decode cX4_bounds 9 = .ok (.iconst 0, 1) := by decide +kernel
theorem dX4_bounds_10 : decode cX4_bounds 10 = .ok (.bipush 99, 2) := by decide +kernel
theorem dX4_bounds_12 : decode cX4_bounds 12 = .ok (.invokestatic 63, 3) := by decide +kernel
theorem dX4_bounds_15 : decode cX4_bounds 15 = .ok (.ifCond .eq 24, 3) := by decide +kernel
theorem dX4_bounds_18 : decode cX4_bounds 18 = .ok (.iload_n 3, 1) := by decide +kernel
theorem dX4_bounds_19 : decode cX4_bounds 19 = .ok (.iconst 0, 1) := by decide +kernel
theorem dX4_bounds_20 : decode cX4_bounds 20 = .ok (.bipush 9, 2) := by decide +kernel
theorem dX4_bounds_22 : decode cX4_bounds 22 = .ok (.invokestatic 63, 3) := by decide +kernel
theorem dX4_bounds_25 : decode cX4_bounds 25 = .ok (.ifCond .eq 14, 3) := by decide +kernel
theorem dX4_bounds_28 : decode cX4_bounds 28 = .ok (.iload 4, 2) := by decide +kernel
theorem dX4_bounds_30 : decode cX4_bounds 30 = .ok (.iconst 0, 1) := by decide +kernel
theorem dX4_bounds_31 : decode cX4_bounds 31 = .ok (.bipush 99, 2) := by decide +kernel
theorem dX4_bounds_33 : decode cX4_bounds 33 = .ok (.invokestatic 63, 3) := by decide +kernel
theorem dX4_bounds_36 : decode cX4_bounds 36 = .ok (.ifCond .ne 5, 3) := by decide +kernel
theorem dX4_bounds_39 : decode cX4_bounds 39 = .ok (.iconst (-1), 1) := by decide +kernel
theorem dX4_bounds_40 : decode cX4_bounds 40 = .ok (.ireturn, 1) := by decide +kernel
theorem dX4_bounds_41 : decode cX4_bounds 41 = .ok (.iconst 2, 1) := by decide +kernel
theorem dX4_bounds_42 : decode cX4_bounds 42 = .ok (.iconst 3, 1) := by decide +kernel
theorem dX4_bounds_43 : decode cX4_bounds 43 = .ok (.iload_n 1, 1) := by decide +kernel
theorem dX4_bounds_44 : decode cX4_bounds 44 = .ok (.imul, 1) := by decide +kernel
theorem dX4_bounds_45 : decode cX4_bounds 45 = .ok (.iadd, 1) := by decide +kernel
theorem dX4_bounds_46 : decode cX4_bounds 46 = .ok (.istore 5, 2) := by decide +kernel
theorem dX4_bounds_48 : decode cX4_bounds 48 = .ok (.aload_n 0, 1) := by decide +kernel
theorem dX4_bounds_49 : decode cX4_bounds 49 = .ok (.getfield 7, 3) := by decide +kernel
theorem dX4_bounds_52 : decode cX4_bounds 52 = .ok (.iload 5, 2) := by decide +kernel
theorem dX4_bounds_54 : decode cX4_bounds 54 = .ok (.iaload, 1) := by decide +kernel
theorem dX4_bounds_55 : decode cX4_bounds 55 = .ok (.iload_n 2, 1) := by decide +kernel
theorem dX4_bounds_56 : decode cX4_bounds 56 = .ok (.if_icmp .ne 7, 3) := by decide +kernel
theorem dX4_bounds_59 : decode cX4_bounds 59 = .ok (.iconst 1, 1) := by decide +kernel
theorem dX4_bounds_60 : decode cX4_bounds 60 = .ok (.goto 4, 3) := by decide +kernel
theorem dX4_bounds_63 : decode cX4_bounds 63 = .ok (.iconst 0, 1) := by decide +kernel
theorem dX4_bounds_64 : decode cX4_bounds 64 = .ok (.istore 6, 2) := by decide +kernel
theorem dX4_bounds_66 : decode cX4_bounds 66 = .ok (.iload 6, 2) := by decide +kernel
theorem dX4_bounds_68 : decode cX4_bounds 68 = .ok (.ifCond .eq 33, 3) := by decide +kernel
theorem dX4_bounds_71 : decode cX4_bounds 71 = .ok (.aload_n 0, 1) := by decide +kernel
theorem dX4_bounds_72 : decode cX4_bounds 72 = .ok (.getfield 7, 3) := by decide +kernel
theorem dX4_bounds_75 : decode cX4_bounds 75 = .ok (.iload 5, 2) := by decide +kernel
theorem dX4_bounds_77 : decode cX4_bounds 77 = .ok (.iconst 1, 1) := by decide +kernel
theorem dX4_bounds_78 : decode cX4_bounds 78 = .ok (.iadd, 1) := by decide +kernel
theorem dX4_bounds_79 : decode cX4_bounds 79 = .ok (.iaload, 1) := by decide +kernel
theorem dX4_bounds_80 : decode cX4_bounds 80 = .ok (.iload_n 3, 1) := by decide +kernel
theorem dX4_bounds_81 : decode cX4_bounds 81 = .ok (.if_icmp .ne 20, 3) := by decide +kernel
theorem dX4_bounds_84 : decode cX4_bounds 84 = .ok (.aload_n 0, 1) := by decide +kernel
theorem dX4_bounds_85 : decode cX4_bounds 85 = .ok (.getfield 7, 3) := by decide +kernel
theorem dX4_bounds_88 : decode cX4_bounds 88 = .ok (.iload 5, 2) := by decide +kernel
theorem dX4_bounds_90 : decode cX4_bounds 90 = .ok (.iconst 2, 1) := by decide +kernel
theorem dX4_bounds_91 : decode cX4_bounds 91 = .ok (.iadd, 1) := by decide +kernel
theorem dX4_bounds_92 : decode cX4_bounds 92 = .ok (.iaload, 1) := by decide +kernel
theorem dX4_bounds_93 : decode cX4_bounds 93 = .ok (.iload 4, 2) := by decide +kernel
theorem dX4_bounds_95 : decode cX4_bounds 95 = .ok (.if_icmp .ne 6, 3) := by decide +kernel
theorem dX4_bounds_98 : decode cX4_bounds 98 = .ok (.bipush (-2), 2) := by decide +kernel
theorem dX4_bounds_100 : decode cX4_bounds 100 = .ok (.ireturn, 1) := by decide +kernel
theorem dX4_bounds_101 : decode cX4_bounds 101 = .ok (.aload_n 0, 1) := by decide +kernel
theorem dX4_bounds_102 : decode cX4_bounds 102 = .ok (.invokevirtual 115, 3) := by decide +kernel
theorem dX4_bounds_105 : decode cX4_bounds 105 = .ok (.aload_n 0, 1) := by decide +kernel
theorem dX4_bounds_106 : decode cX4_bounds 106 = .ok (.getfield 7, 3) := by decide +kernel
theorem dX4_bounds_109 : decode cX4_bounds 109 = .ok (.iload 5, 2) := by decide +kernel
theorem dX4_bounds_111 : decode cX4_bounds 111 = .ok (.iload_n 2, 1) := by decide +kernel
theorem dX4_bounds_112 : decode cX4_bounds 112 = .ok (.iastore, 1) := by decide +kernel
theorem dX4_bounds_113 : decode cX4_bounds 113 = .ok (.aload_n 0, 1) := by decide +kernel
theorem dX4_bounds_114 : decode cX4_bounds 114 = .ok (.getfield 7, 3) := by decide +kernel
theorem dX4_bounds_117 : decode cX4_bounds 117 = .ok (.iload 5, 2) := by decide +kernel
theorem dX4_bounds_119 : decode cX4_bounds 119 = .ok (.iconst 1, 1) := by decide +kernel
theorem dX4_bounds_120 : decode cX4_bounds 120 = .ok (.iadd, 1) := by decide +kernel
theorem dX4_bounds_121 : decode cX4_bounds 121 = .ok (.iload_n 3, 1) := by decide +kernel
theorem dX4_bounds_122 : decode cX4_bounds 122 = .ok (.iastore, 1) := by decide +kernel
theorem dX4_bounds_123 : decode cX4_bounds 123 = .ok (.aload_n 0, 1) := by decide +kernel
theorem dX4_bounds_124 : decode cX4_bounds 124 = .ok (.getfield 7, 3) := by decide +kernel
theorem dX4_bounds_127 : decode cX4_bounds 127 = .ok (.iload 5, 2) := by decide +kernel
theorem dX4_bounds_129 : decode cX4_bounds 129 = .ok (.iconst 2, 1) := by decide +kernel
theorem dX4_bounds_130 : decode cX4_bounds 130 = .ok (.iadd, 1) := by decide +kernel
theorem dX4_bounds_131 : decode cX4_bounds 131 = .ok (.iload 4, 2) := by decide +kernel
theorem dX4_bounds_133 : decode cX4_bounds 133 = .ok (.iastore, 1) := by decide +kernel
theorem dX4_bounds_134 : decode cX4_bounds 134 = .ok (.iload 6, 2) := by decide +kernel
theorem dX4_bounds_136 : decode cX4_bounds 136 = .ok (.ifCond .ne 11, 3) := by decide +kernel
theorem dX4_bounds_139 : decode cX4_bounds 139 = .ok (.aload_n 0, 1) := by decide +kernel
theorem dX4_bounds_140 : decode cX4_bounds 140 = .ok (.getfield 7, 3) := by decide +kernel
theorem dX4_bounds_143 : decode cX4_bounds 143 = .ok (.iload_n 1, 1) := by decide +kernel
theorem dX4_bounds_144 : decode cX4_bounds 144 = .ok (.invokestatic 53, 3) := by decide +kernel
theorem dX4_bounds_147 : decode cX4_bounds 147 = .ok (.iconst 0, 1) := by decide +kernel
theorem dX4_bounds_148 : decode cX4_bounds 148 = .ok (.istore 7, 2) := by decide +kernel
theorem dX4_bounds_150 : decode cX4_bounds 150 = .ok (.iconst 0, 1) := by decide +kernel
theorem dX4_bounds_151 : decode cX4_bounds 151 = .ok (.istore 8, 2) := by decide +kernel
theorem dX4_bounds_153 : decode cX4_bounds 153 = .ok (.iload 8, 2) := by decide +kernel
theorem dX4_bounds_155 : decode cX4_bounds 155 = .ok (.aload_n 0, 1) := by decide +kernel
theorem dX4_bounds_156 : decode cX4_bounds 156 = .ok (.getfield 7, 3) := by decide +kernel
theorem dX4_bounds_159 : decode cX4_bounds 159 = .ok (.iconst 0, 1) := by decide +kernel
theorem dX4_bounds_160 : decode cX4_bounds 160 = .ok (.iaload, 1) := by decide +kernel
theorem dX4_bounds_161 : decode cX4_bounds 161 = .ok (.if_icmp .ge 35, 3) := by decide +kernel
theorem dX4_bounds_164 : decode cX4_bounds 164 = .ok (.iload 8, 2) := by decide +kernel
theorem dX4_bounds_166 : decode cX4_bounds 166 = .ok (.iload_n 1, 1) := by decide +kernel
theorem dX4_bounds_167 : decode cX4_bounds 167 = .ok (.if_icmp .eq 23, 3) := by decide +kernel
theorem dX4_bounds_170 : decode cX4_bounds 170 = .ok (.aload_n 0, 1) := by decide +kernel
theorem dX4_bounds_171 : decode cX4_bounds 171 = .ok (.iload 8, 2) := by decide +kernel
theorem dX4_bounds_173 : decode cX4_bounds 173 = .ok (.iload_n 1, 1) := by decide +kernel
theorem dX4_bounds_174 : decode cX4_bounds 174 = .ok (.invokevirtual 158, 3) := by decide +kernel
theorem dX4_bounds_177 : decode cX4_bounds 177 = .ok (.ifCond .ge 13, 3) := by decide +kernel
theorem dX4_bounds_180 : decode cX4_bounds 180 = .ok (.aload_n 0, 1) := by decide +kernel
theorem dX4_bounds_181 : decode cX4_bounds 181 = .ok (.iload 8, 2) := by decide +kernel
theorem dX4_bounds_183 : decode cX4_bounds 183 = .ok (.iload_n 1, 1) := by decide +kernel
theorem dX4_bounds_184 : decode cX4_bounds 184 = .ok (.invokevirtual 161, 3) := by decide +kernel
theorem dX4_bounds_187 : decode cX4_bounds 187 = .ok (.iinc 7 1, 3) := by decide +kernel
theorem dX4_bounds_190 : decode cX4_bounds 190 = .ok (.iinc 8 1, 3) := by decide +kernel
theorem dX4_bounds_193 : decode cX4_bounds 193 = .ok (.goto (-40), 3) := by decide +kernel
theorem dX4_bounds_196 : decode cX4_bounds 196 = .ok (.iload 7, 2) := by decide +kernel
theorem dX4_bounds_198 : decode cX4_bounds 198 = .ok (.ireturn, 1) := by decide +kernel
theorem dX4_undo_0 : decode cX4_undo 0 = .ok (.aload_n 0, 1) := by decide +kernel
theorem dX4_undo_1 : decode cX4_undo 1 = .ok (.getfield 49, 3) := by decide +kernel
theorem dX4_undo_4 : decode cX4_undo 4 = .ok (.ifCond .ne 6, 3) := by decide +kernel
theorem dX4_undo_7 : decode cX4_undo 7 = .ok (.bipush (-2), 2) := by decide +kernel
theorem dX4_undo_9 : decode cX4_undo 9 = .ok (.ireturn, 1) := by decide +kernel
theorem dX4_undo_10 : decode cX4_undo 10 = .ok (.aload_n 0, 1) := by decide +kernel
theorem dX4_undo_11 : decode cX4_undo 11 = .ok (.dup, 1) := by decide +kernel
theorem dX4_undo_12 : decode cX4_undo 12 = .ok (.getfield 49, 3) := by decide +kernel
theorem dX4_undo_15 : decode cX4_undo 15 = .ok (.iconst 1, 1) := by decide +kernel
theorem dX4_undo_16 : decode cX4_undo 16 = .ok (.isub, 1) := by decide +kernel
theorem dX4_undo_17 : decode cX4_undo 17 = .ok (.putfield 49, 3) := by decide +kernel
theorem dX4_undo_20 : decode cX4_undo 20 = .ok (.aload_n 0, 1) := by decide +kernel
theorem dX4_undo_21 : decode cX4_undo 21 = .ok (.getfield 19, 3) := by decide +kernel
theorem dX4_undo_24 : decode cX4_undo 24 = .ok (.bipush 127, 2) := by decide +kernel
theorem dX4_undo_26 : decode cX4_undo 26 = .ok (.aload_n 0, 1) := by decide +kernel
theorem dX4_undo_27 : decode cX4_undo 27 = .ok (.getfield 49, 3) := by decide +kernel
theorem dX4_undo_30 : decode cX4_undo 30 = .ok (.imul, 1) := by decide +kernel
theorem dX4_undo_31 : decode cX4_undo 31 = .ok (.aload_n 0, 1) := by decide +kernel
theorem dX4_undo_32 : decode cX4_undo 32 = .ok (.getfield 7, 3) := by decide +kernel
theorem dX4_undo_35 : decode cX4_undo 35 = .ok (.iconst 0, 1) := by decide +kernel
theorem dX4_undo_36 : decode cX4_undo 36 = .ok (.invokestatic 45, 3) := by decide +kernel
theorem dX4_undo_39 : decode cX4_undo 39 = .ok (.aload_n 0, 1) := by decide +kernel
theorem dX4_undo_40 : decode cX4_undo 40 = .ok (.getfield 49, 3) := by decide +kernel
theorem dX4_undo_43 : decode cX4_undo 43 = .ok (.ireturn, 1) := by decide +kernel
theorem dX4_spare_0 : decode cX4_spare 0 = .ok (.bipush (-9), 2) := by decide +kernel
theorem dX4_spare_2 : decode cX4_spare 2 = .ok (.istore_n 2, 1) := by decide +kernel
theorem dX4_spare_3 : decode cX4_spare 3 = .ok (.iconst 0, 1) := by decide +kernel
theorem dX4_spare_4 : decode cX4_spare 4 = .ok (.istore_n 3, 1) := by decide +kernel
theorem dX4_spare_5 : decode cX4_spare 5 = .ok (.iload_n 3, 1) := by decide +kernel
theorem dX4_spare_6 : decode cX4_spare 6 = .ok (.aload_n 0, 1) := by decide +kernel
theorem dX4_spare_7 : decode cX4_spare 7 = .ok (.getfield 7, 3) := by decide +kernel
theorem dX4_spare_10 : decode cX4_spare 10 = .ok (.iconst 0, 1) := by decide +kernel
theorem dX4_spare_11 : decode cX4_spare 11 = .ok (.iaload, 1) := by decide +kernel
theorem dX4_spare_12 : decode cX4_spare 12 = .ok (.if_icmp .ge 51, 3) := by decide +kernel
theorem dX4_spare_15 : decode cX4_spare 15 = .ok (.iload_n 3, 1) := by decide +kernel
theorem dX4_spare_16 : decode cX4_spare 16 = .ok (.iload_n 1, 1) := by decide +kernel
theorem dX4_spare_17 : decode cX4_spare 17 = .ok (.if_icmp .ne 8, 3) := by decide +kernel
theorem dX4_spare_20 : decode cX4_spare 20 = .ok (.bipush (-9), 2) := by decide +kernel
theorem dX4_spare_22 : decode cX4_spare 22 = .ok (.goto 9, 3) := by decide +kernel
theorem dX4_spare_25 : decode cX4_spare 25 = .ok (.aload_n 0, 1) := by decide +kernel
theorem dX4_spare_26 : decode cX4_spare 26 = .ok (.iload_n 1, 1) := by decide +kernel
theorem dX4_spare_27 : decode cX4_spare 27 = .ok (.iload_n 3, 1) := by decide +kernel
theorem dX4_spare_28 : decode cX4_spare 28 = .ok (.invokevirtual 158, 3) := by decide +kernel
theorem dX4_spare_31 : decode cX4_spare 31 = .ok (.istore 4, 2) := by decide +kernel
theorem dX4_spare_33 : decode cX4_spare 33 = .ok (.iload_n 3, 1) := by decide +kernel
theorem dX4_spare_34 : decode cX4_spare 34 = .ok (.iload_n 1, 1) := by decide +kernel
theorem dX4_spare_35 : decode cX4_spare 35 = .ok (.if_icmp .eq 20, 3) := by decide +kernel
theorem dX4_spare_38 : decode cX4_spare 38 = .ok (.iload_n 2, 1) := by decide +kernel
theorem dX4_spare_39 : decode cX4_spare 39 = .ok (.bipush (-9), 2) := by decide +kernel
theorem dX4_spare_41 : decode cX4_spare 41 = .ok (.if_icmp .eq 9, 3) := by decide +kernel
theorem dX4_spare_44 : decode cX4_spare 44 = .ok (.iload 4, 2) := by decide +kernel
theorem dX4_spare_46 : decode cX4_spare 46 = .ok (.iload_n 2, 1) := by decide +kernel
theorem dX4_spare_47 : decode cX4_spare 47 = .ok (.if_icmp .ge 8, 3) := by decide +kernel
theorem dX4_spare_50 : decode cX4_spare 50 = .ok (.iload 4, 2) := by decide +kernel
theorem dX4_spare_52 : decode cX4_spare 52 = .ok (.goto 4, 3) := by decide +kernel
theorem dX4_spare_55 : decode cX4_spare 55 = .ok (.iload_n 2, 1) := by decide +kernel
theorem dX4_spare_56 : decode cX4_spare 56 = .ok (.istore_n 2, 1) := by decide +kernel
theorem dX4_spare_57 : decode cX4_spare 57 = .ok (.iinc 3 1, 3) := by decide +kernel
theorem dX4_spare_60 : decode cX4_spare 60 = .ok (.goto (-55), 3) := by decide +kernel
theorem dX4_spare_63 : decode cX4_spare 63 = .ok (.iload_n 2, 1) := by decide +kernel
theorem dX4_spare_64 : decode cX4_spare 64 = .ok (.ireturn, 1) := by decide +kernel
theorem dX4_copy_0 : decode cX4_copy 0 = .ok (.aload_n 0, 1) := by decide +kernel
theorem dX4_copy_1 : decode cX4_copy 1 = .ok (.iload_n 1, 1) := by decide +kernel
theorem dX4_copy_2 : decode cX4_copy 2 = .ok (.invokevirtual 118, 3) := by decide +kernel
theorem dX4_copy_5 : decode cX4_copy 5 = .ok (.ifCond .eq 13, 3) := by decide +kernel
theorem dX4_copy_8 : decode cX4_copy 8 = .ok (.iload_n 2, 1) := by decide +kernel
theorem dX4_copy_9 : decode cX4_copy 9 = .ok (.iconst 0, 1) := by decide +kernel
theorem dX4_copy_10 : decode cX4_copy 10 = .ok (.bipush 9, 2) := by decide +kernel
theorem dX4_copy_12 : decode cX4_copy 12 = .ok (.invokestatic 63, 3) := by decide +kernel
theorem dX4_copy_15 : decode cX4_copy 15 = .ok (.ifCond .ne 5, 3) := by decide +kernel
theorem dX4_copy_18 : decode cX4_copy 18 = .ok (.iconst (-1), 1) := by decide +kernel
theorem dX4_copy_19 : decode cX4_copy 19 = .ok (.ireturn, 1) := by decide +kernel
theorem dX4_copy_20 : decode cX4_copy 20 = .ok (.iload_n 2, 1) := by decide +kernel
theorem dX4_copy_21 : decode cX4_copy 21 = .ok (.tableswitch 111 3 9 #[43, 53, 63, 77, 93, 99, 105], 43) := by decide +kernel
theorem dX4_copy_64 : decode cX4_copy 64 = .ok (.aload_n 0, 1) := by decide +kernel
theorem dX4_copy_65 : decode cX4_copy 65 = .ok (.getfield 7, 3) := by decide +kernel
theorem dX4_copy_68 : decode cX4_copy 68 = .ok (.bipush 87, 2) := by decide +kernel
theorem dX4_copy_70 : decode cX4_copy 70 = .ok (.iload_n 1, 1) := by decide +kernel
theorem dX4_copy_71 : decode cX4_copy 71 = .ok (.iadd, 1) := by decide +kernel
theorem dX4_copy_72 : decode cX4_copy 72 = .ok (.iaload, 1) := by decide +kernel
theorem dX4_copy_73 : decode cX4_copy 73 = .ok (.ireturn, 1) := by decide +kernel
theorem dX4_copy_74 : decode cX4_copy 74 = .ok (.aload_n 0, 1) := by decide +kernel
theorem dX4_copy_75 : decode cX4_copy 75 = .ok (.getfield 7, 3) := by decide +kernel
theorem dX4_copy_78 : decode cX4_copy 78 = .ok (.bipush 91, 2) := by decide +kernel
theorem dX4_copy_80 : decode cX4_copy 80 = .ok (.iload_n 1, 1) := by decide +kernel
theorem dX4_copy_81 : decode cX4_copy 81 = .ok (.iadd, 1) := by decide +kernel
theorem dX4_copy_82 : decode cX4_copy 82 = .ok (.iaload, 1) := by decide +kernel
theorem dX4_copy_83 : decode cX4_copy 83 = .ok (.ireturn, 1) := by decide +kernel
theorem dX4_copy_84 : decode cX4_copy 84 = .ok (.aload_n 0, 1) := by decide +kernel
theorem dX4_copy_85 : decode cX4_copy 85 = .ok (.aload_n 0, 1) := by decide +kernel
theorem dX4_copy_86 : decode cX4_copy 86 = .ok (.getfield 7, 3) := by decide +kernel
theorem dX4_copy_89 : decode cX4_copy 89 = .ok (.bipush 87, 2) := by decide +kernel
theorem dX4_copy_91 : decode cX4_copy 91 = .ok (.iload_n 1, 1) := by decide +kernel
theorem dX4_copy_92 : decode cX4_copy 92 = .ok (.iadd, 1) := by decide +kernel
theorem dX4_copy_93 : decode cX4_copy 93 = .ok (.iaload, 1) := by decide +kernel
theorem dX4_copy_94 : decode cX4_copy 94 = .ok (.invokevirtual 129, 3) := by decide +kernel
theorem dX4_copy_97 : decode cX4_copy 97 = .ok (.ireturn, 1) := by decide +kernel
theorem dX4_copy_98 : decode cX4_copy 98 = .ok (.aload_n 0, 1) := by decide +kernel
theorem dX4_copy_99 : decode cX4_copy 99 = .ok (.aload_n 0, 1) := by decide +kernel
theorem dX4_copy_100 : decode cX4_copy 100 = .ok (.getfield 7, 3) := by decide +kernel
theorem dX4_copy_103 : decode cX4_copy 103 = .ok (.bipush 87, 2) := by decide +kernel
theorem dX4_copy_105 : decode cX4_copy 105 = .ok (.iload_n 1, 1) := by decide +kernel
theorem dX4_copy_106 : decode cX4_copy 106 = .ok (.iadd, 1) := by decide +kernel
theorem dX4_copy_107 : decode cX4_copy 107 = .ok (.iaload, 1) := by decide +kernel
theorem dX4_copy_108 : decode cX4_copy 108 = .ok (.iconst (-1), 1) := by decide +kernel
theorem dX4_copy_109 : decode cX4_copy 109 = .ok (.ixor, 1) := by decide +kernel
theorem dX4_copy_110 : decode cX4_copy 110 = .ok (.invokevirtual 129, 3) := by decide +kernel
theorem dX4_copy_113 : decode cX4_copy 113 = .ok (.ireturn, 1) := by decide +kernel
theorem dX4_copy_114 : decode cX4_copy 114 = .ok (.aload_n 0, 1) := by decide +kernel
theorem dX4_copy_115 : decode cX4_copy 115 = .ok (.iload_n 1, 1) := by decide +kernel
theorem dX4_copy_116 : decode cX4_copy 116 = .ok (.invokevirtual 152, 3) := by decide +kernel
theorem dX4_copy_119 : decode cX4_copy 119 = .ok (.ireturn, 1) := by decide +kernel
theorem dX4_copy_120 : decode cX4_copy 120 = .ok (.aload_n 0, 1) := by decide +kernel
theorem dX4_copy_121 : decode cX4_copy 121 = .ok (.iload_n 1, 1) := by decide +kernel
theorem dX4_copy_122 : decode cX4_copy 122 = .ok (.invokevirtual 167, 3) := by decide +kernel
theorem dX4_copy_125 : decode cX4_copy 125 = .ok (.ireturn, 1) := by decide +kernel
theorem dX4_copy_126 : decode cX4_copy 126 = .ok (.aload_n 0, 1) := by decide +kernel
theorem dX4_copy_127 : decode cX4_copy 127 = .ok (.iload_n 1, 1) := by decide +kernel
theorem dX4_copy_128 : decode cX4_copy 128 = .ok (.invokevirtual 170, 3) := by decide +kernel
theorem dX4_copy_131 : decode cX4_copy 131 = .ok (.ireturn, 1) := by decide +kernel
theorem dX4_copy_132 : decode cX4_copy 132 = .ok (.aload_n 0, 1) := by decide +kernel
theorem dX4_copy_133 : decode cX4_copy 133 = .ok (.getfield 7, 3) := by decide +kernel
theorem dX4_copy_136 : decode cX4_copy 136 = .ok (.iconst 2, 1) := by decide +kernel
theorem dX4_copy_137 : decode cX4_copy 137 = .ok (.iconst 3, 1) := by decide +kernel
theorem dX4_copy_138 : decode cX4_copy 138 = .ok (.iload_n 1, 1) := by decide +kernel
theorem dX4_copy_139 : decode cX4_copy 139 = .ok (.imul, 1) := by decide +kernel
theorem dX4_copy_140 : decode cX4_copy 140 = .ok (.iadd, 1) := by decide +kernel
theorem dX4_copy_141 : decode cX4_copy 141 = .ok (.iload_n 2, 1) := by decide +kernel
theorem dX4_copy_142 : decode cX4_copy 142 = .ok (.iadd, 1) := by decide +kernel
theorem dX4_copy_143 : decode cX4_copy 143 = .ok (.iaload, 1) := by decide +kernel
theorem dX4_copy_144 : decode cX4_copy 144 = .ok (.ireturn, 1) := by decide +kernel
theorem dX4_pair_0 : decode cX4_pair 0 = .ok (.aload_n 0, 1) := by decide +kernel
theorem dX4_pair_1 : decode cX4_pair 1 = .ok (.iload_n 1, 1) := by decide +kernel
theorem dX4_pair_2 : decode cX4_pair 2 = .ok (.iload_n 2, 1) := by decide +kernel
theorem dX4_pair_3 : decode cX4_pair 3 = .ok (.invokevirtual 164, 3) := by decide +kernel
theorem dX4_pair_6 : decode cX4_pair 6 = .ok (.ifCond .eq 12, 3) := by decide +kernel
theorem dX4_pair_9 : decode cX4_pair 9 = .ok (.iload_n 3, 1) := by decide +kernel
theorem dX4_pair_10 : decode cX4_pair 10 = .ok (.iconst 0, 1) := by decide +kernel
theorem dX4_pair_11 : decode cX4_pair 11 = .ok (.iconst 3, 1) := by decide +kernel
theorem dX4_pair_12 : decode cX4_pair 12 = .ok (.invokestatic 63, 3) := by decide +kernel
theorem dX4_pair_15 : decode cX4_pair 15 = .ok (.ifCond .ne 5, 3) := by decide +kernel
theorem dX4_pair_18 : decode cX4_pair 18 = .ok (.iconst (-1), 1) := by decide +kernel
theorem dX4_pair_19 : decode cX4_pair 19 = .ok (.ireturn, 1) := by decide +kernel
theorem dX4_pair_20 : decode cX4_pair 20 = .ok (.iload_n 3, 1) := by decide +kernel
theorem dX4_pair_21 : decode cX4_pair 21 = .ok (.ifCond .ne 17, 3) := by decide +kernel
theorem dX4_pair_24 : decode cX4_pair 24 = .ok (.aload_n 0, 1) := by decide +kernel
theorem dX4_pair_25 : decode cX4_pair 25 = .ok (.getfield 7, 3) := by decide +kernel
theorem dX4_pair_28 : decode cX4_pair 28 = .ok (.aload_n 0, 1) := by decide +kernel
theorem dX4_pair_29 : decode cX4_pair 29 = .ok (.iload_n 1, 1) := by decide +kernel
theorem dX4_pair_30 : decode cX4_pair 30 = .ok (.iload_n 2, 1) := by decide +kernel
theorem dX4_pair_31 : decode cX4_pair 31 = .ok (.invokevirtual 142, 3) := by decide +kernel
theorem dX4_pair_34 : decode cX4_pair 34 = .ok (.iaload, 1) := by decide +kernel
theorem dX4_pair_35 : decode cX4_pair 35 = .ok (.goto 42, 3) := by decide +kernel
theorem dX4_pair_38 : decode cX4_pair 38 = .ok (.iload_n 3, 1) := by decide +kernel
theorem dX4_pair_39 : decode cX4_pair 39 = .ok (.iconst 1, 1) := by decide +kernel
theorem dX4_pair_40 : decode cX4_pair 40 = .ok (.if_icmp .ne 17, 3) := by decide +kernel
theorem dX4_pair_43 : decode cX4_pair 43 = .ok (.aload_n 0, 1) := by decide +kernel
theorem dX4_pair_44 : decode cX4_pair 44 = .ok (.getfield 7, 3) := by decide +kernel
theorem dX4_pair_47 : decode cX4_pair 47 = .ok (.aload_n 0, 1) := by decide +kernel
theorem dX4_pair_48 : decode cX4_pair 48 = .ok (.iload_n 2, 1) := by decide +kernel
theorem dX4_pair_49 : decode cX4_pair 49 = .ok (.iload_n 1, 1) := by decide +kernel
theorem dX4_pair_50 : decode cX4_pair 50 = .ok (.invokevirtual 132, 3) := by decide +kernel
theorem dX4_pair_53 : decode cX4_pair 53 = .ok (.iaload, 1) := by decide +kernel
theorem dX4_pair_54 : decode cX4_pair 54 = .ok (.goto 23, 3) := by decide +kernel
theorem dX4_pair_57 : decode cX4_pair 57 = .ok (.iload_n 3, 1) := by decide +kernel
theorem dX4_pair_58 : decode cX4_pair 58 = .ok (.iconst 2, 1) := by decide +kernel
theorem dX4_pair_59 : decode cX4_pair 59 = .ok (.if_icmp .ne 12, 3) := by decide +kernel
theorem dX4_pair_62 : decode cX4_pair 62 = .ok (.aload_n 0, 1) := by decide +kernel
theorem dX4_pair_63 : decode cX4_pair 63 = .ok (.iload_n 2, 1) := by decide +kernel
theorem dX4_pair_64 : decode cX4_pair 64 = .ok (.iload_n 1, 1) := by decide +kernel
theorem dX4_pair_65 : decode cX4_pair 65 = .ok (.invokevirtual 136, 3) := by decide +kernel
theorem dX4_pair_68 : decode cX4_pair 68 = .ok (.goto 9, 3) := by decide +kernel
theorem dX4_pair_71 : decode cX4_pair 71 = .ok (.aload_n 0, 1) := by decide +kernel
theorem dX4_pair_72 : decode cX4_pair 72 = .ok (.iload_n 2, 1) := by decide +kernel
theorem dX4_pair_73 : decode cX4_pair 73 = .ok (.iload_n 1, 1) := by decide +kernel
theorem dX4_pair_74 : decode cX4_pair 74 = .ok (.invokevirtual 158, 3) := by decide +kernel
theorem dX4_pair_77 : decode cX4_pair 77 = .ok (.ireturn, 1) := by decide +kernel
theorem dX4_holders_0 : decode cX4_holders 0 = .ok (.iconst 0, 1) := by decide +kernel
theorem dX4_holders_1 : decode cX4_holders 1 = .ok (.istore_n 3, 1) := by decide +kernel
theorem dX4_holders_2 : decode cX4_holders 2 = .ok (.iconst 0, 1) := by decide +kernel
theorem dX4_holders_3 : decode cX4_holders 3 = .ok (.istore 4, 2) := by decide +kernel
theorem dX4_holders_5 : decode cX4_holders 5 = .ok (.iload 4, 2) := by decide +kernel
theorem dX4_holders_7 : decode cX4_holders 7 = .ok (.aload_n 0, 1) := by decide +kernel
theorem dX4_holders_8 : decode cX4_holders 8 = .ok (.getfield 7, 3) := by decide +kernel
theorem dX4_holders_11 : decode cX4_holders 11 = .ok (.iconst 0, 1) := by decide +kernel
theorem dX4_holders_12 : decode cX4_holders 12 = .ok (.iaload, 1) := by decide +kernel
theorem dX4_holders_13 : decode cX4_holders 13 = .ok (.if_icmp .ge 28, 3) := by decide +kernel
theorem dX4_holders_16 : decode cX4_holders 16 = .ok (.iload_n 3, 1) := by decide +kernel
theorem dX4_holders_17 : decode cX4_holders 17 = .ok (.aload_n 0, 1) := by decide +kernel
theorem dX4_holders_18 : decode cX4_holders 18 = .ok (.getfield 7, 3) := by decide +kernel
theorem dX4_holders_21 : decode cX4_holders 21 = .ok (.iload_n 1, 1) := by decide +kernel
theorem dX4_holders_22 : decode cX4_holders 22 = .ok (.iload 4, 2) := by decide +kernel
theorem dX4_holders_24 : decode cX4_holders 24 = .ok (.iadd, 1) := by decide +kernel
theorem dX4_holders_25 : decode cX4_holders 25 = .ok (.iaload, 1) := by decide +kernel
theorem dX4_holders_26 : decode cX4_holders 26 = .ok (.iload_n 2, 1) := by decide +kernel
theorem dX4_holders_27 : decode cX4_holders 27 = .ok (.ishr, 1) := by decide +kernel
theorem dX4_holders_28 : decode cX4_holders 28 = .ok (.iconst 1, 1) := by decide +kernel
theorem dX4_holders_29 : decode cX4_holders 29 = .ok (.iand, 1) := by decide +kernel
theorem dX4_holders_30 : decode cX4_holders 30 = .ok (.iload 4, 2) := by decide +kernel
theorem dX4_holders_32 : decode cX4_holders 32 = .ok (.ishl, 1) := by decide +kernel
theorem dX4_holders_33 : decode cX4_holders 33 = .ok (.ior, 1) := by decide +kernel
theorem dX4_holders_34 : decode cX4_holders 34 = .ok (.istore_n 3, 1) := by decide +kernel
theorem dX4_holders_35 : decode cX4_holders 35 = .ok (.iinc 4 1, 3) := by decide +kernel
theorem dX4_holders_38 : decode cX4_holders 38 = .ok (.goto (-33), 3) := by decide +kernel
theorem dX4_holders_41 : decode cX4_holders 41 = .ok (.iload_n 3, 1) := by decide +kernel
theorem dX4_holders_42 : decode cX4_holders 42 = .ok (.ireturn, 1) := by decide +kernel
theorem dX4_write_0 : decode cX4_write 0 = .ok (.iload_n 1, 1) := by decide +kernel
theorem dX4_write_1 : decode cX4_write 1 = .ok (.iconst 0, 1) := by decide +kernel
theorem dX4_write_2 : decode cX4_write 2 = .ok (.aload_n 0, 1) := by decide +kernel
theorem dX4_write_3 : decode cX4_write 3 = .ok (.getfield 7, 3) := by decide +kernel
theorem dX4_write_6 : decode cX4_write 6 = .ok (.bipush 14, 2) := by decide +kernel
theorem dX4_write_8 : decode cX4_write 8 = .ok (.iaload, 1) := by decide +kernel
theorem dX4_write_9 : decode cX4_write 9 = .ok (.iconst 1, 1) := by decide +kernel
theorem dX4_write_10 : decode cX4_write 10 = .ok (.isub, 1) := by decide +kernel
theorem dX4_write_11 : decode cX4_write 11 = .ok (.invokestatic 63, 3) := by decide +kernel
theorem dX4_write_14 : decode cX4_write 14 = .ok (.ifCond .eq 12, 3) := by decide +kernel
theorem dX4_write_17 : decode cX4_write 17 = .ok (.iload_n 2, 1) := by decide +kernel
theorem dX4_write_18 : decode cX4_write 18 = .ok (.iconst 0, 1) := by decide +kernel
theorem dX4_write_19 : decode cX4_write 19 = .ok (.iconst 4, 1) := by decide +kernel
theorem dX4_write_20 : decode cX4_write 20 = .ok (.invokestatic 63, 3) := by decide +kernel
theorem dX4_write_23 : decode cX4_write 23 = .ok (.ifCond .ne 5, 3) := by decide +kernel
theorem dX4_write_26 : decode cX4_write 26 = .ok (.iconst (-1), 1) := by decide +kernel
theorem dX4_write_27 : decode cX4_write 27 = .ok (.ireturn, 1) := by decide +kernel
theorem dX4_write_28 : decode cX4_write 28 = .ok (.iload_n 2, 1) := by decide +kernel
theorem dX4_write_29 : decode cX4_write 29 = .ok (.iconst 3, 1) := by decide +kernel
theorem dX4_write_30 : decode cX4_write 30 = .ok (.if_icmp .ge 19, 3) := by decide +kernel
theorem dX4_write_33 : decode cX4_write 33 = .ok (.aload_n 0, 1) := by decide +kernel
theorem dX4_write_34 : decode cX4_write 34 = .ok (.getfield 7, 3) := by decide +kernel
theorem dX4_write_37 : decode cX4_write 37 = .ok (.bipush 15, 2) := by decide +kernel
theorem dX4_write_39 : decode cX4_write 39 = .ok (.iconst 3, 1) := by decide +kernel
theorem dX4_write_40 : decode cX4_write 40 = .ok (.iload_n 1, 1) := by decide +kernel
theorem dX4_write_41 : decode cX4_write 41 = .ok (.imul, 1) := by decide +kernel
theorem dX4_write_42 : decode cX4_write 42 = .ok (.iadd, 1) := by decide +kernel
theorem dX4_write_43 : decode cX4_write 43 = .ok (.iload_n 2, 1) := by decide +kernel
theorem dX4_write_44 : decode cX4_write 44 = .ok (.iadd, 1) := by decide +kernel
theorem dX4_write_45 : decode cX4_write 45 = .ok (.iaload, 1) := by decide +kernel
theorem dX4_write_46 : decode cX4_write 46 = .ok (.goto 20, 3) := by decide +kernel
theorem dX4_write_49 : decode cX4_write 49 = .ok (.aload_n 0, 1) := by decide +kernel
theorem dX4_write_50 : decode cX4_write 50 = .ok (.iload_n 2, 1) := by decide +kernel
theorem dX4_write_51 : decode cX4_write 51 = .ok (.iconst 3, 1) := by decide +kernel
theorem dX4_write_52 : decode cX4_write 52 = .ok (.if_icmp .ne 8, 3) := by decide +kernel
theorem dX4_write_55 : decode cX4_write 55 = .ok (.bipush 87, 2) := by decide +kernel
theorem dX4_write_57 : decode cX4_write 57 = .ok (.goto 5, 3) := by decide +kernel
theorem dX4_write_60 : decode cX4_write 60 = .ok (.bipush 91, 2) := by decide +kernel
theorem dX4_write_62 : decode cX4_write 62 = .ok (.iload_n 1, 1) := by decide +kernel
theorem dX4_write_63 : decode cX4_write 63 = .ok (.invokevirtual 173, 3) := by decide +kernel
theorem dX4_write_66 : decode cX4_write 66 = .ok (.ireturn, 1) := by decide +kernel
theorem dX4_costs_0 : decode cX4_costs 0 = .ok (.aload_n 0, 1) := by decide +kernel
theorem dX4_costs_1 : decode cX4_costs 1 = .ok (.iload_n 1, 1) := by decide +kernel
theorem dX4_costs_2 : decode cX4_costs 2 = .ok (.invokevirtual 118, 3) := by decide +kernel
theorem dX4_costs_5 : decode cX4_costs 5 = .ok (.ifCond .eq 14, 3) := by decide +kernel
theorem dX4_costs_8 : decode cX4_costs 8 = .ok (.iload_n 2, 1) := by decide +kernel
theorem dX4_costs_9 : decode cX4_costs 9 = .ok (.iconst 1, 1) := by decide +kernel
theorem dX4_costs_10 : decode cX4_costs 10 = .ok (.sipush 999, 3) := by decide +kernel
theorem dX4_costs_13 : decode cX4_costs 13 = .ok (.invokestatic 63, 3) := by decide +kernel
theorem dX4_costs_16 : decode cX4_costs 16 = .ok (.ifCond .ne 5, 3) := by decide +kernel
theorem dX4_costs_19 : decode cX4_costs 19 = .ok (.iconst (-1), 1) := by decide +kernel
theorem dX4_costs_20 : decode cX4_costs 20 = .ok (.ireturn, 1) := by decide +kernel
theorem dX4_costs_21 : decode cX4_costs 21 = .ok (.iconst 0, 1) := by decide +kernel
theorem dX4_costs_22 : decode cX4_costs 22 = .ok (.istore_n 3, 1) := by decide +kernel
theorem dX4_costs_23 : decode cX4_costs 23 = .ok (.iconst 0, 1) := by decide +kernel
theorem dX4_costs_24 : decode cX4_costs 24 = .ok (.istore 4, 2) := by decide +kernel
theorem dX4_costs_26 : decode cX4_costs 26 = .ok (.iload 4, 2) := by decide +kernel
theorem dX4_costs_28 : decode cX4_costs 28 = .ok (.aload_n 0, 1) := by decide +kernel
theorem dX4_costs_29 : decode cX4_costs 29 = .ok (.getfield 7, 3) := by decide +kernel
theorem dX4_costs_32 : decode cX4_costs 32 = .ok (.iconst 0, 1) := by decide +kernel
theorem dX4_costs_33 : decode cX4_costs 33 = .ok (.iaload, 1) := by decide +kernel
theorem dX4_costs_34 : decode cX4_costs 34 = .ok (.if_icmp .ge 34, 3) := by decide +kernel
theorem dX4_costs_37 : decode cX4_costs 37 = .ok (.iload_n 3, 1) := by decide +kernel
theorem dX4_costs_38 : decode cX4_costs 38 = .ok (.iload 4, 2) := by decide +kernel
theorem dX4_costs_40 : decode cX4_costs 40 = .ok (.iload_n 1, 1) := by decide +kernel
theorem dX4_costs_41 : decode cX4_costs 41 = .ok (.if_icmp .eq 18, 3) := by decide +kernel
theorem dX4_costs_44 : decode cX4_costs 44 = .ok (.aload_n 0, 1) := by decide +kernel
theorem dX4_costs_45 : decode cX4_costs 45 = .ok (.iload_n 1, 1) := by decide +kernel
theorem dX4_costs_46 : decode cX4_costs 46 = .ok (.iload 4, 2) := by decide +kernel
theorem dX4_costs_48 : decode cX4_costs 48 = .ok (.invokevirtual 158, 3) := by decide +kernel
theorem dX4_costs_51 : decode cX4_costs 51 = .ok (.iload_n 2, 1) := by decide +kernel
theorem dX4_costs_52 : decode cX4_costs 52 = .ok (.if_icmp .ge 7, 3) := by decide +kernel
theorem dX4_costs_55 : decode cX4_costs 55 = .ok (.iconst 1, 1) := by decide +kernel
theorem dX4_costs_56 : decode cX4_costs 56 = .ok (.goto 4, 3) := by decide +kernel
theorem dX4_costs_59 : decode cX4_costs 59 = .ok (.iconst 0, 1) := by decide +kernel
theorem dX4_costs_60 : decode cX4_costs 60 = .ok (.iadd, 1) := by decide +kernel
theorem dX4_costs_61 : decode cX4_costs 61 = .ok (.istore_n 3, 1) := by decide +kernel
theorem dX4_costs_62 : decode cX4_costs 62 = .ok (.iinc 4 1, 3) := by decide +kernel
theorem dX4_costs_65 : decode cX4_costs 65 = .ok (.goto (-39), 3) := by decide +kernel
theorem dX4_costs_68 : decode cX4_costs 68 = .ok (.iload_n 3, 1) := by decide +kernel
theorem dX4_costs_69 : decode cX4_costs 69 = .ok (.ireturn, 1) := by decide +kernel
theorem dX4_sees_0 : decode cX4_sees 0 = .ok (.iload_n 1, 1) := by decide +kernel
theorem dX4_sees_1 : decode cX4_sees 1 = .ok (.iconst 0, 1) := by decide +kernel
theorem dX4_sees_2 : decode cX4_sees 2 = .ok (.iconst 2, 1) := by decide +kernel
theorem dX4_sees_3 : decode cX4_sees 3 = .ok (.invokestatic 63, 3) := by decide +kernel
theorem dX4_sees_6 : decode cX4_sees 6 = .ok (.ifCond .eq 14, 3) := by decide +kernel
theorem dX4_sees_9 : decode cX4_sees 9 = .ok (.iload_n 2, 1) := by decide +kernel
theorem dX4_sees_10 : decode cX4_sees 10 = .ok (.iconst 0, 1) := by decide +kernel
theorem dX4_sees_11 : decode cX4_sees 11 = .ok (.sipush 999, 3) := by decide +kernel
theorem dX4_sees_14 : decode cX4_sees 14 = .ok (.invokestatic 63, 3) := by decide +kernel
theorem dX4_sees_17 : decode cX4_sees 17 = .ok (.ifCond .ne 5, 3) := by decide +kernel
theorem dX4_sees_20 : decode cX4_sees 20 = .ok (.iconst (-1), 1) := by decide +kernel
theorem dX4_sees_21 : decode cX4_sees 21 = .ok (.ireturn, 1) := by decide +kernel
theorem dX4_sees_22 : decode cX4_sees 22 = .ok (.aload_n 0, 1) := by decide +kernel
theorem dX4_sees_23 : decode cX4_sees 23 = .ok (.getfield 176, 3) := by decide +kernel
theorem dX4_sees_26 : decode cX4_sees 26 = .ok (.bipush 6, 2) := by decide +kernel
theorem dX4_sees_28 : decode cX4_sees 28 = .ok (.if_icmp .ne 6, 3) := by decide +kernel
theorem dX4_sees_31 : decode cX4_sees 31 = .ok (.bipush (-3), 2) := by decide +kernel
theorem dX4_sees_33 : decode cX4_sees 33 = .ok (.ireturn, 1) := by decide +kernel
theorem dX4_sees_34 : decode cX4_sees 34 = .ok (.aload_n 0, 1) := by decide +kernel
theorem dX4_sees_35 : decode cX4_sees 35 = .ok (.getfield 32, 3) := by decide +kernel
theorem dX4_sees_38 : decode cX4_sees 38 = .ok (.aload_n 0, 1) := by decide +kernel
theorem dX4_sees_39 : decode cX4_sees 39 = .ok (.getfield 176, 3) := by decide +kernel
theorem dX4_sees_42 : decode cX4_sees 42 = .ok (.iload_n 1, 1) := by decide +kernel
theorem dX4_sees_43 : decode cX4_sees 43 = .ok (.iastore, 1) := by decide +kernel
theorem dX4_sees_44 : decode cX4_sees 44 = .ok (.aload_n 0, 1) := by decide +kernel
theorem dX4_sees_45 : decode cX4_sees 45 = .ok (.getfield 35, 3) := by decide +kernel
theorem dX4_sees_48 : decode cX4_sees 48 = .ok (.aload_n 0, 1) := by decide +kernel
theorem dX4_sees_49 : decode cX4_sees 49 = .ok (.getfield 176, 3) := by decide +kernel
theorem dX4_sees_52 : decode cX4_sees 52 = .ok (.iload_n 2, 1) := by decide +kernel
theorem dX4_sees_53 : decode cX4_sees 53 = .ok (.iastore, 1) := by decide +kernel
theorem dX4_sees_54 : decode cX4_sees 54 = .ok (.aload_n 0, 1) := by decide +kernel
theorem dX4_sees_55 : decode cX4_sees 55 = .ok (.dup, 1) := by decide +kernel
theorem dX4_sees_56 : decode cX4_sees 56 = .ok (.getfield 176, 3) := by decide +kernel
theorem dX4_sees_59 : decode cX4_sees 59 = .ok (.iconst 1, 1) := by decide +kernel
theorem dX4_sees_60 : decode cX4_sees 60 = .ok (.iadd, 1) := by decide +kernel
theorem dX4_sees_61 : decode cX4_sees 61 = .ok (.putfield 176, 3) := by decide +kernel
theorem dX4_sees_64 : decode cX4_sees 64 = .ok (.aload_n 0, 1) := by decide +kernel
theorem dX4_sees_65 : decode cX4_sees 65 = .ok (.getfield 176, 3) := by decide +kernel
theorem dX4_sees_68 : decode cX4_sees 68 = .ok (.ireturn, 1) := by decide +kernel
theorem dX4_forget_0 : decode cX4_forget 0 = .ok (.aload_n 0, 1) := by decide +kernel
theorem dX4_forget_1 : decode cX4_forget 1 = .ok (.getfield 176, 3) := by decide +kernel
theorem dX4_forget_4 : decode cX4_forget 4 = .ok (.istore_n 1, 1) := by decide +kernel
theorem dX4_forget_5 : decode cX4_forget 5 = .ok (.aload_n 0, 1) := by decide +kernel
theorem dX4_forget_6 : decode cX4_forget 6 = .ok (.iconst 0, 1) := by decide +kernel
theorem dX4_forget_7 : decode cX4_forget 7 = .ok (.putfield 176, 3) := by decide +kernel
theorem dX4_forget_10 : decode cX4_forget 10 = .ok (.iload_n 1, 1) := by decide +kernel
theorem dX4_forget_11 : decode cX4_forget 11 = .ok (.ireturn, 1) := by decide +kernel
theorem dX4_property_0 : decode cX4_property 0 = .ok (.iload_n 2, 1) := by decide +kernel
theorem dX4_property_1 : decode cX4_property 1 = .ok (.ifCond .ne 19, 3) := by decide +kernel
theorem dX4_property_4 : decode cX4_property 4 = .ok (.aload_n 0, 1) := by decide +kernel
theorem dX4_property_5 : decode cX4_property 5 = .ok (.aload_n 0, 1) := by decide +kernel
theorem dX4_property_6 : decode cX4_property 6 = .ok (.getfield 7, 3) := by decide +kernel
theorem dX4_property_9 : decode cX4_property 9 = .ok (.bipush 87, 2) := by decide +kernel
theorem dX4_property_11 : decode cX4_property 11 = .ok (.iload_n 1, 1) := by decide +kernel
theorem dX4_property_12 : decode cX4_property 12 = .ok (.iadd, 1) := by decide +kernel
theorem dX4_property_13 : decode cX4_property 13 = .ok (.iaload, 1) := by decide +kernel
theorem dX4_property_14 : decode cX4_property 14 = .ok (.invokevirtual 129, 3) := by decide +kernel
theorem dX4_property_17 : decode cX4_property 17 = .ok (.goto 21, 3) := by decide +kernel
theorem dX4_property_20 : decode cX4_property 20 = .ok (.iload_n 2, 1) := by decide +kernel
theorem dX4_property_21 : decode cX4_property 21 = .ok (.iconst 1, 1) := by decide +kernel
theorem dX4_property_22 : decode cX4_property 22 = .ok (.if_icmp .ne 11, 3) := by decide +kernel
theorem dX4_property_25 : decode cX4_property 25 = .ok (.aload_n 0, 1) := by decide +kernel
theorem dX4_property_26 : decode cX4_property 26 = .ok (.iload_n 1, 1) := by decide +kernel
theorem dX4_property_27 : decode cX4_property 27 = .ok (.invokevirtual 152, 3) := by decide +kernel
theorem dX4_property_30 : decode cX4_property 30 = .ok (.goto 8, 3) := by decide +kernel
theorem dX4_property_33 : decode cX4_property 33 = .ok (.aload_n 0, 1) := by decide +kernel
theorem dX4_property_34 : decode cX4_property 34 = .ok (.iload_n 1, 1) := by decide +kernel
theorem dX4_property_35 : decode cX4_property 35 = .ok (.invokevirtual 167, 3) := by decide +kernel
theorem dX4_property_38 : decode cX4_property 38 = .ok (.ireturn, 1) := by decide +kernel
theorem dX4_candidates_0 : decode cX4_candidates 0 = .ok (.iconst 0, 1) := by decide +kernel
theorem dX4_candidates_1 : decode cX4_candidates 1 = .ok (.istore_n 1, 1) := by decide +kernel
theorem dX4_candidates_2 : decode cX4_candidates 2 = .ok (.iconst 0, 1) := by decide +kernel
theorem dX4_candidates_3 : decode cX4_candidates 3 = .ok (.istore_n 2, 1) := by decide +kernel
theorem dX4_candidates_4 : decode cX4_candidates 4 = .ok (.iload_n 2, 1) := by decide +kernel
theorem dX4_candidates_5 : decode cX4_candidates 5 = .ok (.aload_n 0, 1) := by decide +kernel
theorem dX4_candidates_6 : decode cX4_candidates 6 = .ok (.getfield 7, 3) := by decide +kernel
theorem dX4_candidates_9 : decode cX4_candidates 9 = .ok (.iconst 0, 1) := by decide +kernel
theorem dX4_candidates_10 : decode cX4_candidates 10 = .ok (.iaload, 1) := by decide +kernel
theorem dX4_candidates_11 : decode cX4_candidates 11 = .ok (.if_icmp .ge 75, 3) := by decide +kernel
theorem dX4_candidates_14 : decode cX4_candidates 14 = .ok (.iconst 1, 1) := by decide +kernel
theorem dX4_candidates_15 : decode cX4_candidates 15 = .ok (.istore_n 3, 1) := by decide +kernel
theorem dX4_candidates_16 : decode cX4_candidates 16 = .ok (.iconst 0, 1) := by decide +kernel
theorem dX4_candidates_17 : decode cX4_candidates 17 = .ok (.istore 4, 2) := by decide +kernel
theorem dX4_candidates_19 : decode cX4_candidates 19 = .ok (.iload 4, 2) := by decide +kernel
theorem dX4_candidates_21 : decode cX4_candidates 21 = .ok (.aload_n 0, 1) := by decide +kernel
theorem dX4_candidates_22 : decode cX4_candidates 22 = .ok (.getfield 176, 3) := by decide +kernel
theorem dX4_candidates_25 : decode cX4_candidates 25 = .ok (.if_icmp .ge 41, 3) := by decide +kernel
theorem dX4_candidates_28 : decode cX4_candidates 28 = .ok (.iload_n 3, 1) := by decide +kernel
theorem dX4_candidates_29 : decode cX4_candidates 29 = .ok (.ifCond .eq 29, 3) := by decide +kernel
theorem dX4_candidates_32 : decode cX4_candidates 32 = .ok (.aload_n 0, 1) := by decide +kernel
theorem dX4_candidates_33 : decode cX4_candidates 33 = .ok (.iload_n 2, 1) := by decide +kernel
theorem dX4_candidates_34 : decode cX4_candidates 34 = .ok (.aload_n 0, 1) := by decide +kernel
theorem dX4_candidates_35 : decode cX4_candidates 35 = .ok (.getfield 32, 3) := by decide +kernel
theorem dX4_candidates_38 : decode cX4_candidates 38 = .ok (.iload 4, 2) := by decide +kernel
theorem dX4_candidates_40 : decode cX4_candidates 40 = .ok (.iaload, 1) := by decide +kernel
theorem dX4_candidates_41 : decode cX4_candidates 41 = .ok (.invokevirtual 179, 3) := by decide +kernel
theorem dX4_candidates_44 : decode cX4_candidates 44 = .ok (.aload_n 0, 1) := by decide +kernel
theorem dX4_candidates_45 : decode cX4_candidates 45 = .ok (.getfield 35, 3) := by decide +kernel
theorem dX4_candidates_48 : decode cX4_candidates 48 = .ok (.iload 4, 2) := by decide +kernel
theorem dX4_candidates_50 : decode cX4_candidates 50 = .ok (.iaload, 1) := by decide +kernel
theorem dX4_candidates_51 : decode cX4_candidates 51 = .ok (.if_icmp .ne 7, 3) := by decide +kernel
theorem dX4_candidates_54 : decode cX4_candidates 54 = .ok (.iconst 1, 1) := by decide +kernel
theorem dX4_candidates_55 : decode cX4_candidates 55 = .ok (.goto 4, 3) := by decide +kernel
theorem dX4_candidates_58 : decode cX4_candidates 58 = .ok (.iconst 0, 1) := by decide +kernel
theorem dX4_candidates_59 : decode cX4_candidates 59 = .ok (.istore_n 3, 1) := by decide +kernel
theorem dX4_candidates_60 : decode cX4_candidates 60 = .ok (.iinc 4 1, 3) := by decide +kernel
theorem dX4_candidates_63 : decode cX4_candidates 63 = .ok (.goto (-44), 3) := by decide +kernel
theorem dX4_candidates_66 : decode cX4_candidates 66 = .ok (.iload_n 1, 1) := by decide +kernel
theorem dX4_candidates_67 : decode cX4_candidates 67 = .ok (.iload_n 3, 1) := by decide +kernel
theorem dX4_candidates_68 : decode cX4_candidates 68 = .ok (.ifCond .eq 9, 3) := by decide +kernel
theorem dX4_candidates_71 : decode cX4_candidates 71 = .ok (.iconst 1, 1) := by decide +kernel
theorem dX4_candidates_72 : decode cX4_candidates 72 = .ok (.iload_n 2, 1) := by decide +kernel
theorem dX4_candidates_73 : decode cX4_candidates 73 = .ok (.ishl, 1) := by decide +kernel
theorem dX4_candidates_74 : decode cX4_candidates 74 = .ok (.goto 4, 3) := by decide +kernel
theorem dX4_candidates_77 : decode cX4_candidates 77 = .ok (.iconst 0, 1) := by decide +kernel
theorem dX4_candidates_78 : decode cX4_candidates 78 = .ok (.ior, 1) := by decide +kernel
theorem dX4_candidates_79 : decode cX4_candidates 79 = .ok (.istore_n 1, 1) := by decide +kernel
theorem dX4_candidates_80 : decode cX4_candidates 80 = .ok (.iinc 2 1, 3) := by decide +kernel
theorem dX4_candidates_83 : decode cX4_candidates 83 = .ok (.goto (-79), 3) := by decide +kernel
theorem dX4_candidates_86 : decode cX4_candidates 86 = .ok (.iload_n 1, 1) := by decide +kernel
theorem dX4_candidates_87 : decode cX4_candidates 87 = .ok (.ireturn, 1) := by decide +kernel
theorem dX4_which_0 : decode cX4_which 0 = .ok (.aload_n 0, 1) := by decide +kernel
theorem dX4_which_1 : decode cX4_which 1 = .ok (.invokevirtual 182, 3) := by decide +kernel
theorem dX4_which_4 : decode cX4_which 4 = .ok (.ireturn, 1) := by decide +kernel
theorem dX4_largestGroup_0 : decode cX4_largestGroup 0 = .ok (.iconst 0, 1) := by decide +kernel
theorem dX4_largestGroup_1 : decode cX4_largestGroup 1 = .ok (.istore_n 3, 1) := by decide +kernel
theorem dX4_largestGroup_2 : decode cX4_largestGroup 2 = .ok (.iconst 0, 1) := by decide +kernel
theorem dX4_largestGroup_3 : decode cX4_largestGroup 3 = .ok (.istore 4, 2) := by decide +kernel
theorem dX4_largestGroup_5 : decode cX4_largestGroup 5 = .ok (.iload 4, 2) := by decide +kernel
theorem dX4_largestGroup_7 : decode cX4_largestGroup 7 = .ok (.aload_n 0, 1) := by decide +kernel
theorem dX4_largestGroup_8 : decode cX4_largestGroup 8 = .ok (.getfield 7, 3) := by decide +kernel
theorem dX4_largestGroup_11 : decode cX4_largestGroup 11 = .ok (.iconst 0, 1) := by decide +kernel
theorem dX4_largestGroup_12 : decode cX4_largestGroup 12 = .ok (.iaload, 1) := by decide +kernel
theorem dX4_largestGroup_13 : decode cX4_largestGroup 13 = .ok (.if_icmp .ge 104, 3) := by decide +kernel
theorem dX4_largestGroup_16 : decode cX4_largestGroup 16 = .ok (.iconst 0, 1) := by decide +kernel
theorem dX4_largestGroup_17 : decode cX4_largestGroup 17 = .ok (.istore 5, 2) := by decide +kernel
theorem dX4_largestGroup_19 : decode cX4_largestGroup 19 = .ok (.iconst 0, 1) := by decide +kernel
theorem dX4_largestGroup_20 : decode cX4_largestGroup 20 = .ok (.istore 6, 2) := by decide +kernel
theorem dX4_largestGroup_22 : decode cX4_largestGroup 22 = .ok (.iload 6, 2) := by decide +kernel
theorem dX4_largestGroup_24 : decode cX4_largestGroup 24 = .ok (.aload_n 0, 1) := by decide +kernel
theorem dX4_largestGroup_25 : decode cX4_largestGroup 25 = .ok (.getfield 7, 3) := by decide +kernel
theorem dX4_largestGroup_28 : decode cX4_largestGroup 28 = .ok (.iconst 0, 1) := by decide +kernel
theorem dX4_largestGroup_29 : decode cX4_largestGroup 29 = .ok (.iaload, 1) := by decide +kernel
theorem dX4_largestGroup_30 : decode cX4_largestGroup 30 = .ok (.if_icmp .ge 68, 3) := by decide +kernel
theorem dX4_largestGroup_33 : decode cX4_largestGroup 33 = .ok (.iload_n 1, 1) := by decide +kernel
theorem dX4_largestGroup_34 : decode cX4_largestGroup 34 = .ok (.iload 4, 2) := by decide +kernel
theorem dX4_largestGroup_36 : decode cX4_largestGroup 36 = .ok (.ishr, 1) := by decide +kernel
theorem dX4_largestGroup_37 : decode cX4_largestGroup 37 = .ok (.iconst 1, 1) := by decide +kernel
theorem dX4_largestGroup_38 : decode cX4_largestGroup 38 = .ok (.iand, 1) := by decide +kernel
theorem dX4_largestGroup_39 : decode cX4_largestGroup 39 = .ok (.iconst 1, 1) := by decide +kernel
theorem dX4_largestGroup_40 : decode cX4_largestGroup 40 = .ok (.if_icmp .ne 17, 3) := by decide +kernel
theorem dX4_largestGroup_43 : decode cX4_largestGroup 43 = .ok (.iload_n 1, 1) := by decide +kernel
theorem dX4_largestGroup_44 : decode cX4_largestGroup 44 = .ok (.iload 6, 2) := by decide +kernel
theorem dX4_largestGroup_46 : decode cX4_largestGroup 46 = .ok (.ishr, 1) := by decide +kernel
theorem dX4_largestGroup_47 : decode cX4_largestGroup 47 = .ok (.iconst 1, 1) := by decide +kernel
theorem dX4_largestGroup_48 : decode cX4_largestGroup 48 = .ok (.iand, 1) := by decide +kernel
theorem dX4_largestGroup_49 : decode cX4_largestGroup 49 = .ok (.iconst 1, 1) := by decide +kernel
theorem dX4_largestGroup_50 : decode cX4_largestGroup 50 = .ok (.if_icmp .ne 7, 3) := by decide +kernel
theorem dX4_largestGroup_53 : decode cX4_largestGroup 53 = .ok (.iconst 1, 1) := by decide +kernel
theorem dX4_largestGroup_54 : decode cX4_largestGroup 54 = .ok (.goto 4, 3) := by decide +kernel
theorem dX4_largestGroup_57 : decode cX4_largestGroup 57 = .ok (.iconst 0, 1) := by decide +kernel
theorem dX4_largestGroup_58 : decode cX4_largestGroup 58 = .ok (.istore 7, 2) := by decide +kernel
theorem dX4_largestGroup_60 : decode cX4_largestGroup 60 = .ok (.iload 5, 2) := by decide +kernel
theorem dX4_largestGroup_62 : decode cX4_largestGroup 62 = .ok (.iload 7, 2) := by decide +kernel
theorem dX4_largestGroup_64 : decode cX4_largestGroup 64 = .ok (.ifCond .eq 24, 3) := by decide +kernel
theorem dX4_largestGroup_67 : decode cX4_largestGroup 67 = .ok (.aload_n 0, 1) := by decide +kernel
theorem dX4_largestGroup_68 : decode cX4_largestGroup 68 = .ok (.iload 4, 2) := by decide +kernel
theorem dX4_largestGroup_70 : decode cX4_largestGroup 70 = .ok (.iload_n 2, 1) := by decide +kernel
theorem dX4_largestGroup_71 : decode cX4_largestGroup 71 = .ok (.invokevirtual 179, 3) := by decide +kernel
theorem dX4_largestGroup_74 : decode cX4_largestGroup 74 = .ok (.aload_n 0, 1) := by decide +kernel
theorem dX4_largestGroup_75 : decode cX4_largestGroup 75 = .ok (.iload 6, 2) := by decide +kernel
theorem dX4_largestGroup_77 : decode cX4_largestGroup 77 = .ok (.iload_n 2, 1) := by decide +kernel
theorem dX4_largestGroup_78 : decode cX4_largestGroup 78 = .ok (.invokevirtual 179, 3) := by decide +kernel
theorem dX4_largestGroup_81 : decode cX4_largestGroup 81 = .ok (.if_icmp .ne 7, 3) := by decide +kernel
theorem dX4_largestGroup_84 : decode cX4_largestGroup 84 = .ok (.iconst 1, 1) := by decide +kernel
theorem dX4_largestGroup_85 : decode cX4_largestGroup 85 = .ok (.goto 4, 3) := by decide +kernel
theorem dX4_largestGroup_88 : decode cX4_largestGroup 88 = .ok (.iconst 0, 1) := by decide +kernel
theorem dX4_largestGroup_89 : decode cX4_largestGroup 89 = .ok (.iadd, 1) := by decide +kernel
theorem dX4_largestGroup_90 : decode cX4_largestGroup 90 = .ok (.istore 5, 2) := by decide +kernel
theorem dX4_largestGroup_92 : decode cX4_largestGroup 92 = .ok (.iinc 6 1, 3) := by decide +kernel
theorem dX4_largestGroup_95 : decode cX4_largestGroup 95 = .ok (.goto (-73), 3) := by decide +kernel
theorem dX4_largestGroup_98 : decode cX4_largestGroup 98 = .ok (.iload 5, 2) := by decide +kernel
theorem dX4_largestGroup_100 : decode cX4_largestGroup 100 = .ok (.iload_n 3, 1) := by decide +kernel
theorem dX4_largestGroup_101 : decode cX4_largestGroup 101 = .ok (.if_icmp .le 8, 3) := by decide +kernel
theorem dX4_largestGroup_104 : decode cX4_largestGroup 104 = .ok (.iload 5, 2) := by decide +kernel
theorem dX4_largestGroup_106 : decode cX4_largestGroup 106 = .ok (.goto 4, 3) := by decide +kernel
theorem dX4_largestGroup_109 : decode cX4_largestGroup 109 = .ok (.iload_n 3, 1) := by decide +kernel
theorem dX4_largestGroup_110 : decode cX4_largestGroup 110 = .ok (.istore_n 3, 1) := by decide +kernel
theorem dX4_largestGroup_111 : decode cX4_largestGroup 111 = .ok (.iinc 4 1, 3) := by decide +kernel
theorem dX4_largestGroup_114 : decode cX4_largestGroup 114 = .ok (.goto (-109), 3) := by decide +kernel
theorem dX4_largestGroup_117 : decode cX4_largestGroup 117 = .ok (.iload_n 3, 1) := by decide +kernel
theorem dX4_largestGroup_118 : decode cX4_largestGroup 118 = .ok (.ireturn, 1) := by decide +kernel
theorem dX4_ask_0 : decode cX4_ask 0 = .ok (.aload_n 0, 1) := by decide +kernel
theorem dX4_ask_1 : decode cX4_ask 1 = .ok (.invokevirtual 182, 3) := by decide +kernel
theorem dX4_ask_4 : decode cX4_ask 4 = .ok (.istore_n 1, 1) := by decide +kernel
theorem dX4_ask_5 : decode cX4_ask 5 = .ok (.iload_n 1, 1) := by decide +kernel
theorem dX4_ask_6 : decode cX4_ask 6 = .ok (.invokestatic 139, 3) := by decide +kernel
theorem dX4_ask_9 : decode cX4_ask 9 = .ok (.iconst 2, 1) := by decide +kernel
theorem dX4_ask_10 : decode cX4_ask 10 = .ok (.if_icmp .ge 6, 3) := by decide +kernel
theorem dX4_ask_13 : decode cX4_ask 13 = .ok (.bipush (-9), 2) := by decide +kernel
theorem dX4_ask_15 : decode cX4_ask 15 = .ok (.ireturn, 1) := by decide +kernel
theorem dX4_ask_16 : decode cX4_ask 16 = .ok (.iconst 0, 1) := by decide +kernel
theorem dX4_ask_17 : decode cX4_ask 17 = .ok (.istore_n 2, 1) := by decide +kernel
theorem dX4_ask_18 : decode cX4_ask 18 = .ok (.aload_n 0, 1) := by decide +kernel
theorem dX4_ask_19 : decode cX4_ask 19 = .ok (.iload_n 1, 1) := by decide +kernel
theorem dX4_ask_20 : decode cX4_ask 20 = .ok (.iconst 0, 1) := by decide +kernel
theorem dX4_ask_21 : decode cX4_ask 21 = .ok (.invokevirtual 185, 3) := by decide +kernel
theorem dX4_ask_24 : decode cX4_ask 24 = .ok (.istore_n 3, 1) := by decide +kernel
theorem dX4_ask_25 : decode cX4_ask 25 = .ok (.iconst 1, 1) := by decide +kernel
theorem dX4_ask_26 : decode cX4_ask 26 = .ok (.istore 4, 2) := by decide +kernel
theorem dX4_ask_28 : decode cX4_ask 28 = .ok (.iload 4, 2) := by decide +kernel
theorem dX4_ask_30 : decode cX4_ask 30 = .ok (.iconst 3, 1) := by decide +kernel
theorem dX4_ask_31 : decode cX4_ask 31 = .ok (.if_icmp .ge 44, 3) := by decide +kernel
theorem dX4_ask_34 : decode cX4_ask 34 = .ok (.aload_n 0, 1) := by decide +kernel
theorem dX4_ask_35 : decode cX4_ask 35 = .ok (.iload_n 1, 1) := by decide +kernel
theorem dX4_ask_36 : decode cX4_ask 36 = .ok (.iload 4, 2) := by decide +kernel
theorem dX4_ask_38 : decode cX4_ask 38 = .ok (.invokevirtual 185, 3) := by decide +kernel
theorem dX4_ask_41 : decode cX4_ask 41 = .ok (.istore 5, 2) := by decide +kernel
theorem dX4_ask_43 : decode cX4_ask 43 = .ok (.iload 5, 2) := by decide +kernel
theorem dX4_ask_45 : decode cX4_ask 45 = .ok (.iload_n 3, 1) := by decide +kernel
theorem dX4_ask_46 : decode cX4_ask 46 = .ok (.if_icmp .ge 8, 3) := by decide +kernel
theorem dX4_ask_49 : decode cX4_ask 49 = .ok (.iload 4, 2) := by decide +kernel
theorem dX4_ask_51 : decode cX4_ask 51 = .ok (.goto 4, 3) := by decide +kernel
theorem dX4_ask_54 : decode cX4_ask 54 = .ok (.iload_n 2, 1) := by decide +kernel
theorem dX4_ask_55 : decode cX4_ask 55 = .ok (.istore_n 2, 1) := by decide +kernel
theorem dX4_ask_56 : decode cX4_ask 56 = .ok (.iload 5, 2) := by decide +kernel
theorem dX4_ask_58 : decode cX4_ask 58 = .ok (.iload_n 3, 1) := by decide +kernel
theorem dX4_ask_59 : decode cX4_ask 59 = .ok (.if_icmp .ge 8, 3) := by decide +kernel
theorem dX4_ask_62 : decode cX4_ask 62 = .ok (.iload 5, 2) := by decide +kernel
theorem dX4_ask_64 : decode cX4_ask 64 = .ok (.goto 4, 3) := by decide +kernel
theorem dX4_ask_67 : decode cX4_ask 67 = .ok (.iload_n 3, 1) := by decide +kernel
theorem dX4_ask_68 : decode cX4_ask 68 = .ok (.istore_n 3, 1) := by decide +kernel
theorem dX4_ask_69 : decode cX4_ask 69 = .ok (.iinc 4 1, 3) := by decide +kernel
theorem dX4_ask_72 : decode cX4_ask 72 = .ok (.goto (-44), 3) := by decide +kernel
theorem dX4_ask_75 : decode cX4_ask 75 = .ok (.iload_n 2, 1) := by decide +kernel
theorem dX4_ask_76 : decode cX4_ask 76 = .ok (.ireturn, 1) := by decide +kernel
theorem dX4_keep_0 : decode cX4_keep 0 = .ok (.iload_n 1, 1) := by decide +kernel
theorem dX4_keep_1 : decode cX4_keep 1 = .ok (.iconst 0, 1) := by decide +kernel
theorem dX4_keep_2 : decode cX4_keep 2 = .ok (.iconst 1, 1) := by decide +kernel
theorem dX4_keep_3 : decode cX4_keep 3 = .ok (.invokestatic 63, 3) := by decide +kernel
theorem dX4_keep_6 : decode cX4_keep 6 = .ok (.ifCond .ne 5, 3) := by decide +kernel
theorem dX4_keep_9 : decode cX4_keep 9 = .ok (.iconst (-1), 1) := by decide +kernel
theorem dX4_keep_10 : decode cX4_keep 10 = .ok (.ireturn, 1) := by decide +kernel
theorem dX4_keep_11 : decode cX4_keep 11 = .ok (.aload_n 0, 1) := by decide +kernel
theorem dX4_keep_12 : decode cX4_keep 12 = .ok (.getfield 7, 3) := by decide +kernel
theorem dX4_keep_15 : decode cX4_keep 15 = .ok (.iconst 0, 1) := by decide +kernel
theorem dX4_keep_16 : decode cX4_keep 16 = .ok (.aload_n 0, 1) := by decide +kernel
theorem dX4_keep_17 : decode cX4_keep 17 = .ok (.getfield 22, 3) := by decide +kernel
theorem dX4_keep_20 : decode cX4_keep 20 = .ok (.bipush 127, 2) := by decide +kernel
theorem dX4_keep_22 : decode cX4_keep 22 = .ok (.iload_n 1, 1) := by decide +kernel
theorem dX4_keep_23 : decode cX4_keep 23 = .ok (.imul, 1) := by decide +kernel
theorem dX4_keep_24 : decode cX4_keep 24 = .ok (.invokestatic 45, 3) := by decide +kernel
theorem dX4_keep_27 : decode cX4_keep 27 = .ok (.aload_n 0, 1) := by decide +kernel
theorem dX4_keep_28 : decode cX4_keep 28 = .ok (.getfield 25, 3) := by decide +kernel
theorem dX4_keep_31 : decode cX4_keep 31 = .ok (.iload_n 1, 1) := by decide +kernel
theorem dX4_keep_32 : decode cX4_keep 32 = .ok (.iconst 1, 1) := by decide +kernel
theorem dX4_keep_33 : decode cX4_keep 33 = .ok (.bastore, 1) := by decide +kernel
theorem dX4_keep_34 : decode cX4_keep 34 = .ok (.aload_n 0, 1) := by decide +kernel
theorem dX4_keep_35 : decode cX4_keep 35 = .ok (.getfield 7, 3) := by decide +kernel
theorem dX4_keep_38 : decode cX4_keep 38 = .ok (.iconst 1, 1) := by decide +kernel
theorem dX4_keep_39 : decode cX4_keep 39 = .ok (.iaload, 1) := by decide +kernel
theorem dX4_keep_40 : decode cX4_keep 40 = .ok (.ireturn, 1) := by decide +kernel
theorem dX4_back_0 : decode cX4_back 0 = .ok (.iload_n 1, 1) := by decide +kernel
theorem dX4_back_1 : decode cX4_back 1 = .ok (.iconst 0, 1) := by decide +kernel
theorem dX4_back_2 : decode cX4_back 2 = .ok (.iconst 1, 1) := by decide +kernel
theorem dX4_back_3 : decode cX4_back 3 = .ok (.invokestatic 63, 3) := by decide +kernel
theorem dX4_back_6 : decode cX4_back 6 = .ok (.ifCond .ne 5, 3) := by decide +kernel
theorem dX4_back_9 : decode cX4_back 9 = .ok (.iconst (-1), 1) := by decide +kernel
theorem dX4_back_10 : decode cX4_back 10 = .ok (.ireturn, 1) := by decide +kernel
theorem dX4_back_11 : decode cX4_back 11 = .ok (.aload_n 0, 1) := by decide +kernel
theorem dX4_back_12 : decode cX4_back 12 = .ok (.getfield 25, 3) := by decide +kernel
theorem dX4_back_15 : decode cX4_back 15 = .ok (.iload_n 1, 1) := by decide +kernel
theorem dX4_back_16 : decode cX4_back 16 = .ok (.baload, 1) := by decide +kernel
theorem dX4_back_17 : decode cX4_back 17 = .ok (.ifCond .ne 6, 3) := by decide +kernel
theorem dX4_back_20 : decode cX4_back 20 = .ok (.bipush (-2), 2) := by decide +kernel
theorem dX4_back_22 : decode cX4_back 22 = .ok (.ireturn, 1) := by decide +kernel
theorem dX4_back_23 : decode cX4_back 23 = .ok (.aload_n 0, 1) := by decide +kernel
theorem dX4_back_24 : decode cX4_back 24 = .ok (.getfield 22, 3) := by decide +kernel
theorem dX4_back_27 : decode cX4_back 27 = .ok (.bipush 127, 2) := by decide +kernel
theorem dX4_back_29 : decode cX4_back 29 = .ok (.iload_n 1, 1) := by decide +kernel
theorem dX4_back_30 : decode cX4_back 30 = .ok (.imul, 1) := by decide +kernel
theorem dX4_back_31 : decode cX4_back 31 = .ok (.aload_n 0, 1) := by decide +kernel
theorem dX4_back_32 : decode cX4_back 32 = .ok (.getfield 7, 3) := by decide +kernel
theorem dX4_back_35 : decode cX4_back 35 = .ok (.iconst 0, 1) := by decide +kernel
theorem dX4_back_36 : decode cX4_back 36 = .ok (.invokestatic 45, 3) := by decide +kernel
theorem dX4_back_39 : decode cX4_back 39 = .ok (.aload_n 0, 1) := by decide +kernel
theorem dX4_back_40 : decode cX4_back 40 = .ok (.iconst 0, 1) := by decide +kernel
theorem dX4_back_41 : decode cX4_back 41 = .ok (.putfield 49, 3) := by decide +kernel
theorem dX4_back_44 : decode cX4_back 44 = .ok (.aload_n 0, 1) := by decide +kernel
theorem dX4_back_45 : decode cX4_back 45 = .ok (.getfield 7, 3) := by decide +kernel
theorem dX4_back_48 : decode cX4_back 48 = .ok (.iconst 1, 1) := by decide +kernel
theorem dX4_back_49 : decode cX4_back 49 = .ok (.iaload, 1) := by decide +kernel
theorem dX4_back_50 : decode cX4_back 50 = .ok (.ireturn, 1) := by decide +kernel
theorem dX4_fullCopies_0 : decode cX4_fullCopies 0 = .ok (.iconst 0, 1) := by decide +kernel
theorem dX4_fullCopies_1 : decode cX4_fullCopies 1 = .ok (.istore_n 1, 1) := by decide +kernel
theorem dX4_fullCopies_2 : decode cX4_fullCopies 2 = .ok (.iconst 0, 1) := by decide +kernel
theorem dX4_fullCopies_3 : decode cX4_fullCopies 3 = .ok (.istore_n 2, 1) := by decide +kernel
theorem dX4_fullCopies_4 : decode cX4_fullCopies 4 = .ok (.iload_n 2, 1) := by decide +kernel
theorem dX4_fullCopies_5 : decode cX4_fullCopies 5 = .ok (.aload_n 0, 1) := by decide +kernel
theorem dX4_fullCopies_6 : decode cX4_fullCopies 6 = .ok (.getfield 7, 3) := by decide +kernel
theorem dX4_fullCopies_9 : decode cX4_fullCopies 9 = .ok (.iconst 0, 1) := by decide +kernel
theorem dX4_fullCopies_10 : decode cX4_fullCopies 10 = .ok (.iaload, 1) := by decide +kernel
theorem dX4_fullCopies_11 : decode cX4_fullCopies 11 = .ok (.if_icmp .ge 42, 3) := by decide +kernel
theorem dX4_fullCopies_14 : decode cX4_fullCopies 14 = .ok (.iload_n 1, 1) := by decide +kernel
theorem dX4_fullCopies_15 : decode cX4_fullCopies 15 = .ok (.aload_n 0, 1) := by decide +kernel
theorem dX4_fullCopies_16 : decode cX4_fullCopies 16 = .ok (.getfield 7, 3) := by decide +kernel
theorem dX4_fullCopies_19 : decode cX4_fullCopies 19 = .ok (.bipush 87, 2) := by decide +kernel
theorem dX4_fullCopies_21 : decode cX4_fullCopies 21 = .ok (.iload_n 2, 1) := by decide +kernel
theorem dX4_fullCopies_22 : decode cX4_fullCopies 22 = .ok (.iadd, 1) := by decide +kernel
theorem dX4_fullCopies_23 : decode cX4_fullCopies 23 = .ok (.iaload, 1) := by decide +kernel
theorem dX4_fullCopies_24 : decode cX4_fullCopies 24 = .ok (.iconst 1, 1) := by decide +kernel
theorem dX4_fullCopies_25 : decode cX4_fullCopies 25 = .ok (.aload_n 0, 1) := by decide +kernel
theorem dX4_fullCopies_26 : decode cX4_fullCopies 26 = .ok (.getfield 7, 3) := by decide +kernel
theorem dX4_fullCopies_29 : decode cX4_fullCopies 29 = .ok (.bipush 14, 2) := by decide +kernel
theorem dX4_fullCopies_31 : decode cX4_fullCopies 31 = .ok (.iaload, 1) := by decide +kernel
theorem dX4_fullCopies_32 : decode cX4_fullCopies 32 = .ok (.ishl, 1) := by decide +kernel
theorem dX4_fullCopies_33 : decode cX4_fullCopies 33 = .ok (.iconst 1, 1) := by decide +kernel
theorem dX4_fullCopies_34 : decode cX4_fullCopies 34 = .ok (.isub, 1) := by decide +kernel
theorem dX4_fullCopies_35 : decode cX4_fullCopies 35 = .ok (.if_icmp .ne 9, 3) := by decide +kernel
theorem dX4_fullCopies_38 : decode cX4_fullCopies 38 = .ok (.iconst 1, 1) := by decide +kernel
theorem dX4_fullCopies_39 : decode cX4_fullCopies 39 = .ok (.iload_n 2, 1) := by decide +kernel
theorem dX4_fullCopies_40 : decode cX4_fullCopies 40 = .ok (.ishl, 1) := by decide +kernel
theorem dX4_fullCopies_41 : decode cX4_fullCopies 41 = .ok (.goto 4, 3) := by decide +kernel
theorem dX4_fullCopies_44 : decode cX4_fullCopies 44 = .ok (.iconst 0, 1) := by decide +kernel
theorem dX4_fullCopies_45 : decode cX4_fullCopies 45 = .ok (.ior, 1) := by decide +kernel
theorem dX4_fullCopies_46 : decode cX4_fullCopies 46 = .ok (.istore_n 1, 1) := by decide +kernel
theorem dX4_fullCopies_47 : decode cX4_fullCopies 47 = .ok (.iinc 2 1, 3) := by decide +kernel
theorem dX4_fullCopies_50 : decode cX4_fullCopies 50 = .ok (.goto (-46), 3) := by decide +kernel
theorem dX4_fullCopies_53 : decode cX4_fullCopies 53 = .ok (.iload_n 1, 1) := by decide +kernel
theorem dX4_fullCopies_54 : decode cX4_fullCopies 54 = .ok (.ireturn, 1) := by decide +kernel
theorem dX4_count_0 : decode cX4_count 0 = .ok (.iload_n 1, 1) := by decide +kernel
theorem dX4_count_1 : decode cX4_count 1 = .ok (.tableswitch 95 0 7 #[47, 54, 61, 69, 75, 80, 85, 90], 47) := by decide +kernel
theorem dX4_count_48 : decode cX4_count 48 = .ok (.aload_n 0, 1) := by decide +kernel
theorem dX4_count_49 : decode cX4_count 49 = .ok (.getfield 7, 3) := by decide +kernel
theorem dX4_count_52 : decode cX4_count 52 = .ok (.iconst 0, 1) := by decide +kernel
theorem dX4_count_53 : decode cX4_count 53 = .ok (.iaload, 1) := by decide +kernel
theorem dX4_count_54 : decode cX4_count 54 = .ok (.ireturn, 1) := by decide +kernel
theorem dX4_count_55 : decode cX4_count 55 = .ok (.aload_n 0, 1) := by decide +kernel
theorem dX4_count_56 : decode cX4_count 56 = .ok (.getfield 7, 3) := by decide +kernel
theorem dX4_count_59 : decode cX4_count 59 = .ok (.iconst 1, 1) := by decide +kernel
theorem dX4_count_60 : decode cX4_count 60 = .ok (.iaload, 1) := by decide +kernel
theorem dX4_count_61 : decode cX4_count 61 = .ok (.ireturn, 1) := by decide +kernel
theorem dX4_count_62 : decode cX4_count 62 = .ok (.aload_n 0, 1) := by decide +kernel
theorem dX4_count_63 : decode cX4_count 63 = .ok (.getfield 7, 3) := by decide +kernel
theorem dX4_count_66 : decode cX4_count 66 = .ok (.bipush 14, 2) := by decide +kernel
theorem dX4_count_68 : decode cX4_count 68 = .ok (.iaload, 1) := by decide +kernel
theorem dX4_count_69 : decode cX4_count 69 = .ok (.ireturn, 1) := by decide +kernel
theorem dX4_count_70 : decode cX4_count 70 = .ok (.aload_n 0, 1) := by decide +kernel
theorem dX4_count_71 : decode cX4_count 71 = .ok (.iconst (-1), 1) := by decide +kernel
theorem dX4_count_72 : decode cX4_count 72 = .ok (.invokevirtual 129, 3) := by decide +kernel
theorem dX4_count_75 : decode cX4_count 75 = .ok (.ireturn, 1) := by decide +kernel
theorem dX4_count_76 : decode cX4_count 76 = .ok (.aload_n 0, 1) := by decide +kernel
theorem dX4_count_77 : decode cX4_count 77 = .ok (.invokevirtual 188, 3) := by decide +kernel
theorem dX4_count_80 : decode cX4_count 80 = .ok (.ireturn, 1) := by decide +kernel
theorem dX4_count_81 : decode cX4_count 81 = .ok (.aload_n 0, 1) := by decide +kernel
theorem dX4_count_82 : decode cX4_count 82 = .ok (.getfield 176, 3) := by decide +kernel
theorem dX4_count_85 : decode cX4_count 85 = .ok (.ireturn, 1) := by decide +kernel
theorem dX4_count_86 : decode cX4_count 86 = .ok (.aload_n 0, 1) := by decide +kernel
theorem dX4_count_87 : decode cX4_count 87 = .ok (.getfield 60, 3) := by decide +kernel
theorem dX4_count_90 : decode cX4_count 90 = .ok (.ireturn, 1) := by decide +kernel
theorem dX4_count_91 : decode cX4_count 91 = .ok (.aload_n 0, 1) := by decide +kernel
theorem dX4_count_92 : decode cX4_count 92 = .ok (.getfield 49, 3) := by decide +kernel
theorem dX4_count_95 : decode cX4_count 95 = .ok (.ireturn, 1) := by decide +kernel
theorem dX4_count_96 : decode cX4_count 96 = .ok (.iconst (-1), 1) := by decide +kernel
theorem dX4_count_97 : decode cX4_count 97 = .ok (.ireturn, 1) := by decide +kernel
end
section
theorem cl_L_7 : Cond.classLink RL 7 RX3 ∈ tb := List.mem_filter.mpr ⟨List.mem_of_getElem? (i := 51) (by decide +kernel), by decide +kernel⟩
theorem ins_RX3_10 : Cond.instantiable RX3 10 ∈ tb := List.mem_filter.mpr ⟨List.mem_of_getElem? (i := 52) (by decide +kernel), by decide +kernel⟩
theorem ini_RX3 : Cond.initialized RX3 ∈ tb := List.mem_filter.mpr ⟨List.mem_of_getElem? (i := 38) (by decide +kernel), by decide +kernel⟩
theorem cl_L_10 : Cond.classLink RL 10 RX4 ∈ tb := List.mem_filter.mpr ⟨List.mem_of_getElem? (i := 576) (by decide +kernel), by decide +kernel⟩
theorem ins_RX4_17 : Cond.instantiable RX4 17 ∈ tb := List.mem_filter.mpr ⟨List.mem_of_getElem? (i := 577) (by decide +kernel), by decide +kernel⟩
theorem ini_RX4 : Cond.initialized RX4 ∈ tb := List.mem_filter.mpr ⟨List.mem_of_getElem? (i := 43) (by decide +kernel), by decide +kernel⟩
theorem ml_L_9 : Cond.methodLink RL 9 yX3_init ∈ tb := List.mem_filter.mpr ⟨List.mem_of_getElem? (i := 53) (by decide +kernel), by decide +kernel⟩
theorem im_yX3_init : Cond.instanceMethod yX3_init ∈ tb := List.mem_filter.mpr ⟨List.mem_of_getElem? (i := 54) (by decide +kernel), by decide +kernel⟩
theorem co_yX3_init : Cond.code yX3_init cX3_init 2 none ∈ tb := List.mem_filter.mpr ⟨List.mem_of_getElem? (i := 55) (by decide +kernel), by decide +kernel⟩
theorem ml_X3_1 : Cond.methodLink RX3 1 objectInit ∈ tb := List.mem_filter.mpr ⟨List.mem_of_getElem? (i := 56) (by decide +kernel), by decide +kernel⟩
theorem im_objectInit : Cond.instanceMethod objectInit ∈ tb := List.mem_filter.mpr ⟨List.mem_of_getElem? (i := 57) (by decide +kernel), by decide +kernel⟩
theorem co_objectInit : Cond.code objectInit ⟨#[0xb1]⟩ 1 none ∈ tb := List.mem_filter.mpr ⟨List.mem_of_getElem? (i := 58) (by decide +kernel), by decide +kernel⟩
theorem cl_X3_7 : Cond.classLink RX3 7 RX1 ∈ tb := List.mem_filter.mpr ⟨List.mem_of_getElem? (i := 59) (by decide +kernel), by decide +kernel⟩
theorem ins_RX1_13 : Cond.instantiable RX1 13 ∈ tb := List.mem_filter.mpr ⟨List.mem_of_getElem? (i := 60) (by decide +kernel), by decide +kernel⟩
theorem ini_RX1 : Cond.initialized RX1 ∈ tb := List.mem_filter.mpr ⟨List.mem_of_getElem? (i := 39) (by decide +kernel), by decide +kernel⟩
theorem fl_X3_10 : Cond.fieldLink RX3 10 "StaleBounds" "now" "LStaleBounds$Ledger;" ∈ tb := List.mem_filter.mpr ⟨List.mem_of_getElem? (i := 189) (by decide +kernel), by decide +kernel⟩
theorem fl_X3_16 : Cond.fieldLink RX3 16 "StaleBounds" "trial" "LStaleBounds$Ledger;" ∈ tb := List.mem_filter.mpr ⟨List.mem_of_getElem? (i := 190) (by decide +kernel), by decide +kernel⟩
theorem cl_X3_19 : Cond.classLink RX3 19 RX0 ∈ tb := List.mem_filter.mpr ⟨List.mem_of_getElem? (i := 142) (by decide +kernel), by decide +kernel⟩
theorem ins_RX0_3 : Cond.instantiable RX0 3 ∈ tb := List.mem_filter.mpr ⟨List.mem_of_getElem? (i := 143) (by decide +kernel), by decide +kernel⟩
theorem ini_RX0 : Cond.initialized RX0 ∈ tb := List.mem_filter.mpr ⟨List.mem_of_getElem? (i := 41) (by decide +kernel), by decide +kernel⟩
theorem fl_X3_22 : Cond.fieldLink RX3 22 "StaleBounds" "history" "LStaleBounds$History;" ∈ tb := List.mem_filter.mpr ⟨List.mem_of_getElem? (i := 191) (by decide +kernel), by decide +kernel⟩
theorem cl_X3_26 : Cond.classLink RX3 26 RX2 ∈ tb := List.mem_filter.mpr ⟨List.mem_of_getElem? (i := 162) (by decide +kernel), by decide +kernel⟩
theorem ins_RX2_6 : Cond.instantiable RX2 6 ∈ tb := List.mem_filter.mpr ⟨List.mem_of_getElem? (i := 163) (by decide +kernel), by decide +kernel⟩
theorem ini_RX2 : Cond.initialized RX2 ∈ tb := List.mem_filter.mpr ⟨List.mem_of_getElem? (i := 42) (by decide +kernel), by decide +kernel⟩
theorem fl_X3_29 : Cond.fieldLink RX3 29 "StaleBounds" "text" "LStaleBounds$Text;" ∈ tb := List.mem_filter.mpr ⟨List.mem_of_getElem? (i := 192) (by decide +kernel), by decide +kernel⟩
theorem fl_X3_33 : Cond.fieldLink RX3 33 "StaleBounds" "images" "[LStaleBounds$Ledger;" ∈ tb := List.mem_filter.mpr ⟨List.mem_of_getElem? (i := 193) (by decide +kernel), by decide +kernel⟩
theorem arr__boolean : Cond.arrayClass .boolean ∈ tb := List.mem_filter.mpr ⟨List.mem_of_getElem? (i := 220) (by decide +kernel), by decide +kernel⟩
theorem fl_X3_37 : Cond.fieldLink RX3 37 "StaleBounds" "kept" "[Z" ∈ tb := List.mem_filter.mpr ⟨List.mem_of_getElem? (i := 194) (by decide +kernel), by decide +kernel⟩
theorem arr__int : Cond.arrayClass .int ∈ tb := List.mem_filter.mpr ⟨List.mem_of_getElem? (i := 141) (by decide +kernel), by decide +kernel⟩
theorem fl_X3_41 : Cond.fieldLink RX3 41 "StaleBounds" "seenWhat" "[I" ∈ tb := List.mem_filter.mpr ⟨List.mem_of_getElem? (i := 195) (by decide +kernel), by decide +kernel⟩
theorem fl_X3_45 : Cond.fieldLink RX3 45 "StaleBounds" "seenNumber" "[I" ∈ tb := List.mem_filter.mpr ⟨List.mem_of_getElem? (i := 196) (by decide +kernel), by decide +kernel⟩
theorem fl_X3_48 : Cond.fieldLink RX3 48 "StaleBounds" "seen" "I" ∈ tb := List.mem_filter.mpr ⟨List.mem_of_getElem? (i := 197) (by decide +kernel), by decide +kernel⟩
theorem fl_X3_52 : Cond.fieldLink RX3 52 "StaleBounds" "answers" "[I" ∈ tb := List.mem_filter.mpr ⟨List.mem_of_getElem? (i := 198) (by decide +kernel), by decide +kernel⟩
theorem ml_X3_9 : Cond.methodLink RX3 9 yX1_init ∈ tb := List.mem_filter.mpr ⟨List.mem_of_getElem? (i := 61) (by decide +kernel), by decide +kernel⟩
theorem im_yX1_init : Cond.instanceMethod yX1_init ∈ tb := List.mem_filter.mpr ⟨List.mem_of_getElem? (i := 62) (by decide +kernel), by decide +kernel⟩
theorem co_yX1_init : Cond.code yX1_init cX1_init 1 none ∈ tb := List.mem_filter.mpr ⟨List.mem_of_getElem? (i := 63) (by decide +kernel), by decide +kernel⟩
theorem ml_X1_3 : Cond.methodLink RX1 3 objectInit ∈ tb := List.mem_filter.mpr ⟨List.mem_of_getElem? (i := 64) (by decide +kernel), by decide +kernel⟩
theorem fl_X1_9 : Cond.fieldLink RX1 9 "StaleBounds$Ledger" "number" "[I" ∈ tb := List.mem_filter.mpr ⟨List.mem_of_getElem? (i := 94) (by decide +kernel), by decide +kernel⟩
theorem fl_X1_15 : Cond.fieldLink RX1 15 "StaleBounds$Ledger" "order" "[I" ∈ tb := List.mem_filter.mpr ⟨List.mem_of_getElem? (i := 96) (by decide +kernel), by decide +kernel⟩
theorem fl_X1_18 : Cond.fieldLink RX1 18 "StaleBounds$Ledger" "age" "[I" ∈ tb := List.mem_filter.mpr ⟨List.mem_of_getElem? (i := 98) (by decide +kernel), by decide +kernel⟩
theorem fl_X1_21 : Cond.fieldLink RX1 21 "StaleBounds$Ledger" "knows" "[I" ∈ tb := List.mem_filter.mpr ⟨List.mem_of_getElem? (i := 100) (by decide +kernel), by decide +kernel⟩
theorem fl_X1_24 : Cond.fieldLink RX1 24 "StaleBounds$Ledger" "fast" "[I" ∈ tb := List.mem_filter.mpr ⟨List.mem_of_getElem? (i := 102) (by decide +kernel), by decide +kernel⟩
theorem fl_X1_27 : Cond.fieldLink RX1 27 "StaleBounds$Ledger" "heard" "[I" ∈ tb := List.mem_filter.mpr ⟨List.mem_of_getElem? (i := 104) (by decide +kernel), by decide +kernel⟩
theorem fl_X1_30 : Cond.fieldLink RX1 30 "StaleBounds$Ledger" "budget" "[I" ∈ tb := List.mem_filter.mpr ⟨List.mem_of_getElem? (i := 106) (by decide +kernel), by decide +kernel⟩
theorem fl_X1_33 : Cond.fieldLink RX1 33 "StaleBounds$Ledger" "acceptedBy" "[I" ∈ tb := List.mem_filter.mpr ⟨List.mem_of_getElem? (i := 108) (by decide +kernel), by decide +kernel⟩
theorem fl_X1_36 : Cond.fieldLink RX1 36 "StaleBounds$Ledger" "acceptedAt" "[I" ∈ tb := List.mem_filter.mpr ⟨List.mem_of_getElem? (i := 110) (by decide +kernel), by decide +kernel⟩
theorem fl_X1_39 : Cond.fieldLink RX1 39 "StaleBounds$Ledger" "weight" "[I" ∈ tb := List.mem_filter.mpr ⟨List.mem_of_getElem? (i := 112) (by decide +kernel), by decide +kernel⟩
theorem ml_X1_42 : Cond.methodLink RX1 42 yX1_startAnew ∈ tb := List.mem_filter.mpr ⟨List.mem_of_getElem? (i := 65) (by decide +kernel), by decide +kernel⟩
theorem im_yX1_startAnew : Cond.instanceMethod yX1_startAnew ∈ tb := List.mem_filter.mpr ⟨List.mem_of_getElem? (i := 66) (by decide +kernel), by decide +kernel⟩
theorem se_RX1_yX1_startAnew : Cond.selects RX1 yX1_startAnew yX1_startAnew ∈ tb := List.mem_filter.mpr ⟨List.mem_of_getElem? (i := 67) (by decide +kernel), by decide +kernel⟩
theorem co_yX1_startAnew : Cond.code yX1_startAnew cX1_startAnew 1 none ∈ tb := List.mem_filter.mpr ⟨List.mem_of_getElem? (i := 68) (by decide +kernel), by decide +kernel⟩
theorem fl_X1_48 : Cond.fieldLink RX1 48 "StaleBounds$Ledger" "copies" "I" ∈ tb := List.mem_filter.mpr ⟨List.mem_of_getElem? (i := 87) (by decide +kernel), by decide +kernel⟩
theorem fl_X1_52 : Cond.fieldLink RX1 52 "StaleBounds$Ledger" "time" "I" ∈ tb := List.mem_filter.mpr ⟨List.mem_of_getElem? (i := 90) (by decide +kernel), by decide +kernel⟩
theorem fl_X1_55 : Cond.fieldLink RX1 55 "StaleBounds$Ledger" "writes" "I" ∈ tb := List.mem_filter.mpr ⟨List.mem_of_getElem? (i := 92) (by decide +kernel), by decide +kernel⟩
theorem ml_X1_58 : Cond.methodLink RX1 58 yJ7_fill_53178 ∈ tb := List.mem_filter.mpr ⟨List.mem_of_getElem? (i := 69) (by decide +kernel), by decide +kernel⟩
theorem sm_yJ7_fill_53178 : Cond.static yJ7_fill_53178 ∈ tb := List.mem_filter.mpr ⟨List.mem_of_getElem? (i := 70) (by decide +kernel), by decide +kernel⟩
theorem ini_RJ7 : Cond.initialized RJ7 ∈ tb := List.mem_filter.mpr ⟨List.mem_of_getElem? (i := 40) (by decide +kernel), by decide +kernel⟩
theorem co_yJ7_fill_53178 : Cond.code yJ7_fill_53178 cJ7_fill_53178 4 none ∈ tb := List.mem_filter.mpr ⟨List.mem_of_getElem? (i := 71) (by decide +kernel), by decide +kernel⟩
theorem ml_X1_45 : Cond.methodLink RX1 45 yX1_splitAllNumbers ∈ tb := List.mem_filter.mpr ⟨List.mem_of_getElem? (i := 72) (by decide +kernel), by decide +kernel⟩
theorem im_yX1_splitAllNumbers : Cond.instanceMethod yX1_splitAllNumbers ∈ tb := List.mem_filter.mpr ⟨List.mem_of_getElem? (i := 73) (by decide +kernel), by decide +kernel⟩
theorem se_RX1_yX1_splitAllNumbers : Cond.selects RX1 yX1_splitAllNumbers yX1_splitAllNumbers ∈ tb := List.mem_filter.mpr ⟨List.mem_of_getElem? (i := 74) (by decide +kernel), by decide +kernel⟩
theorem co_yX1_splitAllNumbers : Cond.code yX1_splitAllNumbers cX1_splitAllNumbers 2 none ∈ tb := List.mem_filter.mpr ⟨List.mem_of_getElem? (i := 75) (by decide +kernel), by decide +kernel⟩
theorem ml_X1_70 : Cond.methodLink RX1 70 yX1_splitNumber ∈ tb := List.mem_filter.mpr ⟨List.mem_of_getElem? (i := 76) (by decide +kernel), by decide +kernel⟩
theorem im_yX1_splitNumber : Cond.instanceMethod yX1_splitNumber ∈ tb := List.mem_filter.mpr ⟨List.mem_of_getElem? (i := 77) (by decide +kernel), by decide +kernel⟩
theorem se_RX1_yX1_splitNumber : Cond.selects RX1 yX1_splitNumber yX1_splitNumber ∈ tb := List.mem_filter.mpr ⟨List.mem_of_getElem? (i := 78) (by decide +kernel), by decide +kernel⟩
theorem co_yX1_splitNumber : Cond.code yX1_splitNumber cX1_splitNumber 3 none ∈ tb := List.mem_filter.mpr ⟨List.mem_of_getElem? (i := 79) (by decide +kernel), by decide +kernel⟩
theorem sm_yX3_slot : Cond.static yX3_slot ∈ tb := List.mem_filter.mpr ⟨List.mem_of_getElem? (i := 81) (by decide +kernel), by decide +kernel⟩
theorem co_yX3_slot : Cond.code yX3_slot cX3_slot 2 (some .int) ∈ tb := List.mem_filter.mpr ⟨List.mem_of_getElem? (i := 82) (by decide +kernel), by decide +kernel⟩
theorem ml_X1_78 : Cond.methodLink RX1 78 yX1_shareOf ∈ tb := List.mem_filter.mpr ⟨List.mem_of_getElem? (i := 83) (by decide +kernel), by decide +kernel⟩
theorem im_yX1_shareOf : Cond.instanceMethod yX1_shareOf ∈ tb := List.mem_filter.mpr ⟨List.mem_of_getElem? (i := 84) (by decide +kernel), by decide +kernel⟩
theorem se_RX1_yX1_shareOf : Cond.selects RX1 yX1_shareOf yX1_shareOf ∈ tb := List.mem_filter.mpr ⟨List.mem_of_getElem? (i := 85) (by decide +kernel), by decide +kernel⟩
theorem co_yX1_shareOf : Cond.code yX1_shareOf cX1_shareOf 6 (some .int) ∈ tb := List.mem_filter.mpr ⟨List.mem_of_getElem? (i := 86) (by decide +kernel), by decide +kernel⟩
theorem ml_X3_21 : Cond.methodLink RX3 21 yX0_init ∈ tb := List.mem_filter.mpr ⟨List.mem_of_getElem? (i := 144) (by decide +kernel), by decide +kernel⟩
theorem im_yX0_init : Cond.instanceMethod yX0_init ∈ tb := List.mem_filter.mpr ⟨List.mem_of_getElem? (i := 145) (by decide +kernel), by decide +kernel⟩
theorem co_yX0_init : Cond.code yX0_init cX0_init 2 none ∈ tb := List.mem_filter.mpr ⟨List.mem_of_getElem? (i := 146) (by decide +kernel), by decide +kernel⟩
theorem ml_X0_3 : Cond.methodLink RX0 3 objectInit ∈ tb := List.mem_filter.mpr ⟨List.mem_of_getElem? (i := 147) (by decide +kernel), by decide +kernel⟩
theorem cl_X0_9 : Cond.classLink RX0 9 RX1 ∈ tb := List.mem_filter.mpr ⟨List.mem_of_getElem? (i := 148) (by decide +kernel), by decide +kernel⟩
theorem fl_X0_11 : Cond.fieldLink RX0 11 "StaleBounds$History" "earlier" "[LStaleBounds$Ledger;" ∈ tb := List.mem_filter.mpr ⟨List.mem_of_getElem? (i := 151) (by decide +kernel), by decide +kernel⟩
theorem fl_X0_17 : Cond.fieldLink RX0 17 "StaleBounds$History" "next" "I" ∈ tb := List.mem_filter.mpr ⟨List.mem_of_getElem? (i := 152) (by decide +kernel), by decide +kernel⟩
theorem fl_X0_21 : Cond.fieldLink RX0 21 "StaleBounds$History" "known" "I" ∈ tb := List.mem_filter.mpr ⟨List.mem_of_getElem? (i := 153) (by decide +kernel), by decide +kernel⟩
theorem ml_X0_24 : Cond.methodLink RX0 24 yX1_init ∈ tb := List.mem_filter.mpr ⟨List.mem_of_getElem? (i := 150) (by decide +kernel), by decide +kernel⟩
theorem im_yX2_init : Cond.instanceMethod yX2_init ∈ tb := List.mem_filter.mpr ⟨List.mem_of_getElem? (i := 165) (by decide +kernel), by decide +kernel⟩
theorem co_yX2_init : Cond.code yX2_init cX2_init 1 none ∈ tb := List.mem_filter.mpr ⟨List.mem_of_getElem? (i := 166) (by decide +kernel), by decide +kernel⟩
theorem ml_X2_3 : Cond.methodLink RX2 3 objectInit ∈ tb := List.mem_filter.mpr ⟨List.mem_of_getElem? (i := 167) (by decide +kernel), by decide +kernel⟩
theorem arr__char : Cond.arrayClass .char ∈ tb := List.mem_filter.mpr ⟨List.mem_of_getElem? (i := 188) (by decide +kernel), by decide +kernel⟩
theorem fl_X2_9 : Cond.fieldLink RX2 9 "StaleBounds$Text" "letters" "[C" ∈ tb := List.mem_filter.mpr ⟨List.mem_of_getElem? (i := 168) (by decide +kernel), by decide +kernel⟩
theorem fl_X2_15 : Cond.fieldLink RX2 15 "StaleBounds$Text" "length" "I" ∈ tb := List.mem_filter.mpr ⟨List.mem_of_getElem? (i := 169) (by decide +kernel), by decide +kernel⟩
theorem fl_X2_19 : Cond.fieldLink RX2 19 "StaleBounds$Text" "kinds" "[I" ∈ tb := List.mem_filter.mpr ⟨List.mem_of_getElem? (i := 171) (by decide +kernel), by decide +kernel⟩
theorem fl_X2_23 : Cond.fieldLink RX2 23 "StaleBounds$Text" "starts" "[I" ∈ tb := List.mem_filter.mpr ⟨List.mem_of_getElem? (i := 172) (by decide +kernel), by decide +kernel⟩
theorem fl_X2_26 : Cond.fieldLink RX2 26 "StaleBounds$Text" "values" "[I" ∈ tb := List.mem_filter.mpr ⟨List.mem_of_getElem? (i := 173) (by decide +kernel), by decide +kernel⟩
theorem fl_X2_29 : Cond.fieldLink RX2 29 "StaleBounds$Text" "token" "I" ∈ tb := List.mem_filter.mpr ⟨List.mem_of_getElem? (i := 174) (by decide +kernel), by decide +kernel⟩
theorem ml_L_12 : Cond.methodLink RL 12 yX4_init ∈ tb := List.mem_filter.mpr ⟨List.mem_of_getElem? (i := 578) (by decide +kernel), by decide +kernel⟩
theorem im_yX4_init : Cond.instanceMethod yX4_init ∈ tb := List.mem_filter.mpr ⟨List.mem_of_getElem? (i := 579) (by decide +kernel), by decide +kernel⟩
theorem co_yX4_init : Cond.code yX4_init cX4_init 1 none ∈ tb := List.mem_filter.mpr ⟨List.mem_of_getElem? (i := 580) (by decide +kernel), by decide +kernel⟩
theorem ml_X4_1 : Cond.methodLink RX4 1 objectInit ∈ tb := List.mem_filter.mpr ⟨List.mem_of_getElem? (i := 581) (by decide +kernel), by decide +kernel⟩
theorem fl_X4_7 : Cond.fieldLink RX4 7 "StaleBoundsModel" "now" "[I" ∈ tb := List.mem_filter.mpr ⟨List.mem_of_getElem? (i := 595) (by decide +kernel), by decide +kernel⟩
theorem fl_X4_13 : Cond.fieldLink RX4 13 "StaleBoundsModel" "read" "[I" ∈ tb := List.mem_filter.mpr ⟨List.mem_of_getElem? (i := 596) (by decide +kernel), by decide +kernel⟩
theorem fl_X4_16 : Cond.fieldLink RX4 16 "StaleBoundsModel" "saved" "[I" ∈ tb := List.mem_filter.mpr ⟨List.mem_of_getElem? (i := 597) (by decide +kernel), by decide +kernel⟩
theorem fl_X4_19 : Cond.fieldLink RX4 19 "StaleBoundsModel" "history" "[I" ∈ tb := List.mem_filter.mpr ⟨List.mem_of_getElem? (i := 598) (by decide +kernel), by decide +kernel⟩
theorem fl_X4_22 : Cond.fieldLink RX4 22 "StaleBoundsModel" "images" "[I" ∈ tb := List.mem_filter.mpr ⟨List.mem_of_getElem? (i := 600) (by decide +kernel), by decide +kernel⟩
theorem fl_X4_25 : Cond.fieldLink RX4 25 "StaleBoundsModel" "hasImage" "[Z" ∈ tb := List.mem_filter.mpr ⟨List.mem_of_getElem? (i := 601) (by decide +kernel), by decide +kernel⟩
theorem fl_X4_29 : Cond.fieldLink RX4 29 "StaleBoundsModel" "text" "[I" ∈ tb := List.mem_filter.mpr ⟨List.mem_of_getElem? (i := 602) (by decide +kernel), by decide +kernel⟩
theorem fl_X4_32 : Cond.fieldLink RX4 32 "StaleBoundsModel" "factKind" "[I" ∈ tb := List.mem_filter.mpr ⟨List.mem_of_getElem? (i := 608) (by decide +kernel), by decide +kernel⟩
theorem fl_X4_35 : Cond.fieldLink RX4 35 "StaleBoundsModel" "factValue" "[I" ∈ tb := List.mem_filter.mpr ⟨List.mem_of_getElem? (i := 609) (by decide +kernel), by decide +kernel⟩
theorem ml_X4_38 : Cond.methodLink RX4 38 yX4_beginRead ∈ tb := List.mem_filter.mpr ⟨List.mem_of_getElem? (i := 582) (by decide +kernel), by decide +kernel⟩
theorem im_yX4_beginRead : Cond.instanceMethod yX4_beginRead ∈ tb := List.mem_filter.mpr ⟨List.mem_of_getElem? (i := 584) (by decide +kernel), by decide +kernel⟩
theorem se_RX4_yX4_beginRead : Cond.selects RX4 yX4_beginRead yX4_beginRead ∈ tb := List.mem_filter.mpr ⟨List.mem_of_getElem? (i := 6) (by decide +kernel), by decide +kernel⟩
theorem co_yX4_beginRead : Cond.code yX4_beginRead cX4_beginRead 2 none ∈ tb := List.mem_filter.mpr ⟨List.mem_of_getElem? (i := 585) (by decide +kernel), by decide +kernel⟩
theorem ml_X4_41 : Cond.methodLink RX4 41 yX4_setBudgets ∈ tb := List.mem_filter.mpr ⟨List.mem_of_getElem? (i := 586) (by decide +kernel), by decide +kernel⟩
theorem sm_yX4_setBudgets : Cond.static yX4_setBudgets ∈ tb := List.mem_filter.mpr ⟨List.mem_of_getElem? (i := 587) (by decide +kernel), by decide +kernel⟩
theorem co_yX4_setBudgets : Cond.code yX4_setBudgets cX4_setBudgets 2 none ∈ tb := List.mem_filter.mpr ⟨List.mem_of_getElem? (i := 588) (by decide +kernel), by decide +kernel⟩
theorem ml_X4_53 : Cond.methodLink RX4 53 yX4_setBudgetsFor ∈ tb := List.mem_filter.mpr ⟨List.mem_of_getElem? (i := 589) (by decide +kernel), by decide +kernel⟩
theorem sm_yX4_setBudgetsFor : Cond.static yX4_setBudgetsFor ∈ tb := List.mem_filter.mpr ⟨List.mem_of_getElem? (i := 590) (by decide +kernel), by decide +kernel⟩
theorem co_yX4_setBudgetsFor : Cond.code yX4_setBudgetsFor cX4_setBudgetsFor 6 none ∈ tb := List.mem_filter.mpr ⟨List.mem_of_getElem? (i := 591) (by decide +kernel), by decide +kernel⟩
theorem ml_X4_45 : Cond.methodLink RX4 45 yX4_copyState ∈ tb := List.mem_filter.mpr ⟨List.mem_of_getElem? (i := 592) (by decide +kernel), by decide +kernel⟩
theorem sm_yX4_copyState : Cond.static yX4_copyState ∈ tb := List.mem_filter.mpr ⟨List.mem_of_getElem? (i := 593) (by decide +kernel), by decide +kernel⟩
theorem co_yX4_copyState : Cond.code yX4_copyState cX4_copyState 5 none ∈ tb := List.mem_filter.mpr ⟨List.mem_of_getElem? (i := 594) (by decide +kernel), by decide +kernel⟩
theorem ml_L_13 : Cond.methodLink RL 13 yX3_type ∈ tb := List.mem_filter.mpr ⟨List.mem_of_getElem? (i := 221) (by decide +kernel), by decide +kernel⟩
theorem im_yX3_type : Cond.instanceMethod yX3_type ∈ tb := List.mem_filter.mpr ⟨List.mem_of_getElem? (i := 222) (by decide +kernel), by decide +kernel⟩
theorem se_RX3_yX3_type : Cond.selects RX3 yX3_type yX3_type ∈ tb := List.mem_filter.mpr ⟨List.mem_of_getElem? (i := 223) (by decide +kernel), by decide +kernel⟩
theorem co_yX3_type : Cond.code yX3_type cX3_type 2 (some .int) ∈ tb := List.mem_filter.mpr ⟨List.mem_of_getElem? (i := 224) (by decide +kernel), by decide +kernel⟩
theorem fl_X3_55 : Cond.fieldLink RX3 55 "StaleBounds$Text" "length" "I" ∈ tb := List.mem_filter.mpr ⟨List.mem_of_getElem? (i := 170) (by decide +kernel), by decide +kernel⟩
theorem ml_X3_58 : Cond.methodLink RX3 58 yX2_add ∈ tb := List.mem_filter.mpr ⟨List.mem_of_getElem? (i := 225) (by decide +kernel), by decide +kernel⟩
theorem im_yX2_add : Cond.instanceMethod yX2_add ∈ tb := List.mem_filter.mpr ⟨List.mem_of_getElem? (i := 226) (by decide +kernel), by decide +kernel⟩
theorem se_RX2_yX2_add : Cond.selects RX2 yX2_add yX2_add ∈ tb := List.mem_filter.mpr ⟨List.mem_of_getElem? (i := 227) (by decide +kernel), by decide +kernel⟩
theorem co_yX2_add : Cond.code yX2_add cX2_add 2 none ∈ tb := List.mem_filter.mpr ⟨List.mem_of_getElem? (i := 228) (by decide +kernel), by decide +kernel⟩
theorem ml_L_17 : Cond.methodLink RL 17 yX4_type ∈ tb := List.mem_filter.mpr ⟨List.mem_of_getElem? (i := 647) (by decide +kernel), by decide +kernel⟩
theorem im_yX4_type : Cond.instanceMethod yX4_type ∈ tb := List.mem_filter.mpr ⟨List.mem_of_getElem? (i := 648) (by decide +kernel), by decide +kernel⟩
theorem se_RX4_yX4_type : Cond.selects RX4 yX4_type yX4_type ∈ tb := List.mem_filter.mpr ⟨List.mem_of_getElem? (i := 649) (by decide +kernel), by decide +kernel⟩
theorem co_yX4_type : Cond.code yX4_type cX4_type 2 (some .int) ∈ tb := List.mem_filter.mpr ⟨List.mem_of_getElem? (i := 650) (by decide +kernel), by decide +kernel⟩
theorem fl_X4_60 : Cond.fieldLink RX4 60 "StaleBoundsModel" "length" "I" ∈ tb := List.mem_filter.mpr ⟨List.mem_of_getElem? (i := 603) (by decide +kernel), by decide +kernel⟩
theorem ml_X4_63 : Cond.methodLink RX4 63 yX4_in ∈ tb := List.mem_filter.mpr ⟨List.mem_of_getElem? (i := 651) (by decide +kernel), by decide +kernel⟩
theorem sm_yX4_in : Cond.static yX4_in ∈ tb := List.mem_filter.mpr ⟨List.mem_of_getElem? (i := 652) (by decide +kernel), by decide +kernel⟩
theorem co_yX4_in : Cond.code yX4_in cX4_in 3 (some .boolean) ∈ tb := List.mem_filter.mpr ⟨List.mem_of_getElem? (i := 653) (by decide +kernel), by decide +kernel⟩
theorem ml_L_18 : Cond.methodLink RL 18 yX3_clear ∈ tb := List.mem_filter.mpr ⟨List.mem_of_getElem? (i := 229) (by decide +kernel), by decide +kernel⟩
theorem im_yX3_clear : Cond.instanceMethod yX3_clear ∈ tb := List.mem_filter.mpr ⟨List.mem_of_getElem? (i := 230) (by decide +kernel), by decide +kernel⟩
theorem se_RX3_yX3_clear : Cond.selects RX3 yX3_clear yX3_clear ∈ tb := List.mem_filter.mpr ⟨List.mem_of_getElem? (i := 231) (by decide +kernel), by decide +kernel⟩
theorem co_yX3_clear : Cond.code yX3_clear cX3_clear 1 (some .int) ∈ tb := List.mem_filter.mpr ⟨List.mem_of_getElem? (i := 232) (by decide +kernel), by decide +kernel⟩
theorem ml_X3_62 : Cond.methodLink RX3 62 yX2_drop ∈ tb := List.mem_filter.mpr ⟨List.mem_of_getElem? (i := 233) (by decide +kernel), by decide +kernel⟩
theorem im_yX2_drop : Cond.instanceMethod yX2_drop ∈ tb := List.mem_filter.mpr ⟨List.mem_of_getElem? (i := 234) (by decide +kernel), by decide +kernel⟩
theorem se_RX2_yX2_drop : Cond.selects RX2 yX2_drop yX2_drop ∈ tb := List.mem_filter.mpr ⟨List.mem_of_getElem? (i := 235) (by decide +kernel), by decide +kernel⟩
theorem co_yX2_drop : Cond.code yX2_drop cX2_drop 2 (some .int) ∈ tb := List.mem_filter.mpr ⟨List.mem_of_getElem? (i := 236) (by decide +kernel), by decide +kernel⟩
theorem ml_L_22 : Cond.methodLink RL 22 yX4_clear ∈ tb := List.mem_filter.mpr ⟨List.mem_of_getElem? (i := 654) (by decide +kernel), by decide +kernel⟩
theorem im_yX4_clear : Cond.instanceMethod yX4_clear ∈ tb := List.mem_filter.mpr ⟨List.mem_of_getElem? (i := 655) (by decide +kernel), by decide +kernel⟩
theorem se_RX4_yX4_clear : Cond.selects RX4 yX4_clear yX4_clear ∈ tb := List.mem_filter.mpr ⟨List.mem_of_getElem? (i := 656) (by decide +kernel), by decide +kernel⟩
theorem co_yX4_clear : Cond.code yX4_clear cX4_clear 2 (some .int) ∈ tb := List.mem_filter.mpr ⟨List.mem_of_getElem? (i := 657) (by decide +kernel), by decide +kernel⟩
theorem ml_L_23 : Cond.methodLink RL 23 yX3_tells ∈ tb := List.mem_filter.mpr ⟨List.mem_of_getElem? (i := 237) (by decide +kernel), by decide +kernel⟩
theorem im_yX3_tells : Cond.instanceMethod yX3_tells ∈ tb := List.mem_filter.mpr ⟨List.mem_of_getElem? (i := 238) (by decide +kernel), by decide +kernel⟩
theorem se_RX3_yX3_tells : Cond.selects RX3 yX3_tells yX3_tells ∈ tb := List.mem_filter.mpr ⟨List.mem_of_getElem? (i := 239) (by decide +kernel), by decide +kernel⟩
theorem co_yX3_tells : Cond.code yX3_tells cX3_tells 2 (some .int) ∈ tb := List.mem_filter.mpr ⟨List.mem_of_getElem? (i := 240) (by decide +kernel), by decide +kernel⟩
theorem ml_X3_66 : Cond.methodLink RX3 66 yX2_tellInto ∈ tb := List.mem_filter.mpr ⟨List.mem_of_getElem? (i := 241) (by decide +kernel), by decide +kernel⟩
theorem im_yX2_tellInto : Cond.instanceMethod yX2_tellInto ∈ tb := List.mem_filter.mpr ⟨List.mem_of_getElem? (i := 242) (by decide +kernel), by decide +kernel⟩
theorem se_RX2_yX2_tellInto : Cond.selects RX2 yX2_tellInto yX2_tellInto ∈ tb := List.mem_filter.mpr ⟨List.mem_of_getElem? (i := 243) (by decide +kernel), by decide +kernel⟩
theorem co_yX2_tellInto : Cond.code yX2_tellInto cX2_tellInto 3 (some .int) ∈ tb := List.mem_filter.mpr ⟨List.mem_of_getElem? (i := 244) (by decide +kernel), by decide +kernel⟩
theorem ml_X2_32 : Cond.methodLink RX2 32 yX2_findTokens ∈ tb := List.mem_filter.mpr ⟨List.mem_of_getElem? (i := 245) (by decide +kernel), by decide +kernel⟩
theorem im_yX2_findTokens : Cond.instanceMethod yX2_findTokens ∈ tb := List.mem_filter.mpr ⟨List.mem_of_getElem? (i := 246) (by decide +kernel), by decide +kernel⟩
theorem se_RX2_yX2_findTokens : Cond.selects RX2 yX2_findTokens yX2_findTokens ∈ tb := List.mem_filter.mpr ⟨List.mem_of_getElem? (i := 247) (by decide +kernel), by decide +kernel⟩
theorem co_yX2_findTokens : Cond.code yX2_findTokens cX2_findTokens 3 none ∈ tb := List.mem_filter.mpr ⟨List.mem_of_getElem? (i := 248) (by decide +kernel), by decide +kernel⟩
theorem ml_X2_69 : Cond.methodLink RX2 69 yX2_takeToken ∈ tb := List.mem_filter.mpr ⟨List.mem_of_getElem? (i := 249) (by decide +kernel), by decide +kernel⟩
theorem im_yX2_takeToken : Cond.instanceMethod yX2_takeToken ∈ tb := List.mem_filter.mpr ⟨List.mem_of_getElem? (i := 250) (by decide +kernel), by decide +kernel⟩
theorem se_RX2_yX2_takeToken : Cond.selects RX2 yX2_takeToken yX2_takeToken ∈ tb := List.mem_filter.mpr ⟨List.mem_of_getElem? (i := 251) (by decide +kernel), by decide +kernel⟩
theorem co_yX2_takeToken : Cond.code yX2_takeToken cX2_takeToken 3 (some .int) ∈ tb := List.mem_filter.mpr ⟨List.mem_of_getElem? (i := 252) (by decide +kernel), by decide +kernel⟩
theorem ml_X2_73 : Cond.methodLink RX2 73 yX2_isSmallLetter ∈ tb := List.mem_filter.mpr ⟨List.mem_of_getElem? (i := 253) (by decide +kernel), by decide +kernel⟩
theorem sm_yX2_isSmallLetter : Cond.static yX2_isSmallLetter ∈ tb := List.mem_filter.mpr ⟨List.mem_of_getElem? (i := 254) (by decide +kernel), by decide +kernel⟩
theorem co_yX2_isSmallLetter : Cond.code yX2_isSmallLetter cX2_isSmallLetter 1 (some .boolean) ∈ tb := List.mem_filter.mpr ⟨List.mem_of_getElem? (i := 255) (by decide +kernel), by decide +kernel⟩
theorem ml_X2_77 : Cond.methodLink RX2 77 yX2_takeWord ∈ tb := List.mem_filter.mpr ⟨List.mem_of_getElem? (i := 256) (by decide +kernel), by decide +kernel⟩
theorem im_yX2_takeWord : Cond.instanceMethod yX2_takeWord ∈ tb := List.mem_filter.mpr ⟨List.mem_of_getElem? (i := 257) (by decide +kernel), by decide +kernel⟩
theorem se_RX2_yX2_takeWord : Cond.selects RX2 yX2_takeWord yX2_takeWord ∈ tb := List.mem_filter.mpr ⟨List.mem_of_getElem? (i := 258) (by decide +kernel), by decide +kernel⟩
theorem co_yX2_takeWord : Cond.code yX2_takeWord cX2_takeWord 4 (some .int) ∈ tb := List.mem_filter.mpr ⟨List.mem_of_getElem? (i := 259) (by decide +kernel), by decide +kernel⟩
theorem ml_X2_87 : Cond.methodLink RX2 87 yX2_spells ∈ tb := List.mem_filter.mpr ⟨List.mem_of_getElem? (i := 261) (by decide +kernel), by decide +kernel⟩
theorem im_yX2_spells : Cond.instanceMethod yX2_spells ∈ tb := List.mem_filter.mpr ⟨List.mem_of_getElem? (i := 262) (by decide +kernel), by decide +kernel⟩
theorem se_RX2_yX2_spells : Cond.selects RX2 yX2_spells yX2_spells ∈ tb := List.mem_filter.mpr ⟨List.mem_of_getElem? (i := 263) (by decide +kernel), by decide +kernel⟩
theorem co_yX2_spells : Cond.code yX2_spells cX2_spells 5 (some .boolean) ∈ tb := List.mem_filter.mpr ⟨List.mem_of_getElem? (i := 264) (by decide +kernel), by decide +kernel⟩
theorem ml_X2_93 : Cond.methodLink RX2 93 yJ0_length_8abf5 ∈ tb := List.mem_filter.mpr ⟨List.mem_of_getElem? (i := 265) (by decide +kernel), by decide +kernel⟩
theorem im_yJ0_length_8abf5 : Cond.instanceMethod yJ0_length_8abf5 ∈ tb := List.mem_filter.mpr ⟨List.mem_of_getElem? (i := 266) (by decide +kernel), by decide +kernel⟩
theorem se_RJ0_yJ0_length_8abf5 : Cond.selects RJ0 yJ0_length_8abf5 yJ0_length_8abf5 ∈ tb := List.mem_filter.mpr ⟨List.mem_of_getElem? (i := 267) (by decide +kernel), by decide +kernel⟩
theorem ini_RJ0 : Cond.initialized RJ0 ∈ tb := List.mem_filter.mpr ⟨List.mem_of_getElem? (i := 44) (by decide +kernel), by decide +kernel⟩
theorem co_yJ0_length_8abf5 : Cond.code yJ0_length_8abf5 cJ0_length_8abf5 1 (some .int) ∈ tb := List.mem_filter.mpr ⟨List.mem_of_getElem? (i := 268) (by decide +kernel), by decide +kernel⟩
theorem fl_J0_9 : Cond.fieldLink RJ0 9 "java/lang/String" "value" "[B" ∈ tb := List.mem_filter.mpr ⟨List.mem_of_getElem? (i := 865) (by decide +kernel), by decide +kernel⟩
theorem ml_J0_335 : Cond.methodLink RJ0 335 yJ0_coder_7d493 ∈ tb := List.mem_filter.mpr ⟨List.mem_of_getElem? (i := 269) (by decide +kernel), by decide +kernel⟩
theorem im_yJ0_coder_7d493 : Cond.instanceMethod yJ0_coder_7d493 ∈ tb := List.mem_filter.mpr ⟨List.mem_of_getElem? (i := 270) (by decide +kernel), by decide +kernel⟩
theorem se_RJ0_yJ0_coder_7d493 : Cond.selects RJ0 yJ0_coder_7d493 yJ0_coder_7d493 ∈ tb := List.mem_filter.mpr ⟨List.mem_of_getElem? (i := 271) (by decide +kernel), by decide +kernel⟩
theorem co_yJ0_coder_7d493 : Cond.code yJ0_coder_7d493 cJ0_coder_7d493 1 (some .byte) ∈ tb := List.mem_filter.mpr ⟨List.mem_of_getElem? (i := 272) (by decide +kernel), by decide +kernel⟩
theorem fl_J0_38 : Cond.fieldLink RJ0 38 "java/lang/String" "COMPACT_STRINGS" "Z" ∈ tb := List.mem_filter.mpr ⟨List.mem_of_getElem? (i := 273) (by decide +kernel), by decide +kernel⟩
theorem fl_J0_15 : Cond.fieldLink RJ0 15 "java/lang/String" "coder" "B" ∈ tb := List.mem_filter.mpr ⟨List.mem_of_getElem? (i := 866) (by decide +kernel), by decide +kernel⟩
theorem ml_X2_98 : Cond.methodLink RX2 98 yJ0_charAt_5068e ∈ tb := List.mem_filter.mpr ⟨List.mem_of_getElem? (i := 275) (by decide +kernel), by decide +kernel⟩
theorem im_yJ0_charAt_5068e : Cond.instanceMethod yJ0_charAt_5068e ∈ tb := List.mem_filter.mpr ⟨List.mem_of_getElem? (i := 276) (by decide +kernel), by decide +kernel⟩
theorem se_RJ0_yJ0_charAt_5068e : Cond.selects RJ0 yJ0_charAt_5068e yJ0_charAt_5068e ∈ tb := List.mem_filter.mpr ⟨List.mem_of_getElem? (i := 277) (by decide +kernel), by decide +kernel⟩
theorem co_yJ0_charAt_5068e : Cond.code yJ0_charAt_5068e cJ0_charAt_5068e 2 (some .char) ∈ tb := List.mem_filter.mpr ⟨List.mem_of_getElem? (i := 278) (by decide +kernel), by decide +kernel⟩
theorem ml_J0_492 : Cond.methodLink RJ0 492 yJ0_isLatin1_aae02 ∈ tb := List.mem_filter.mpr ⟨List.mem_of_getElem? (i := 279) (by decide +kernel), by decide +kernel⟩
theorem im_yJ0_isLatin1_aae02 : Cond.instanceMethod yJ0_isLatin1_aae02 ∈ tb := List.mem_filter.mpr ⟨List.mem_of_getElem? (i := 280) (by decide +kernel), by decide +kernel⟩
theorem se_RJ0_yJ0_isLatin1_aae02 : Cond.selects RJ0 yJ0_isLatin1_aae02 yJ0_isLatin1_aae02 ∈ tb := List.mem_filter.mpr ⟨List.mem_of_getElem? (i := 281) (by decide +kernel), by decide +kernel⟩
theorem co_yJ0_isLatin1_aae02 : Cond.code yJ0_isLatin1_aae02 cJ0_isLatin1_aae02 1 (some .boolean) ∈ tb := List.mem_filter.mpr ⟨List.mem_of_getElem? (i := 282) (by decide +kernel), by decide +kernel⟩
theorem ml_J0_495 : Cond.methodLink RJ0 495 yJ1_charAt_3b067 ∈ tb := List.mem_filter.mpr ⟨List.mem_of_getElem? (i := 283) (by decide +kernel), by decide +kernel⟩
theorem sm_yJ1_charAt_3b067 : Cond.static yJ1_charAt_3b067 ∈ tb := List.mem_filter.mpr ⟨List.mem_of_getElem? (i := 284) (by decide +kernel), by decide +kernel⟩
theorem ini_RJ1 : Cond.initialized RJ1 ∈ tb := List.mem_filter.mpr ⟨List.mem_of_getElem? (i := 45) (by decide +kernel), by decide +kernel⟩
theorem co_yJ1_charAt_3b067 : Cond.code yJ1_charAt_3b067 cJ1_charAt_3b067 2 (some .char) ∈ tb := List.mem_filter.mpr ⟨List.mem_of_getElem? (i := 285) (by decide +kernel), by decide +kernel⟩
theorem ml_J1_9 : Cond.methodLink RJ1 9 yJ0_checkIndex_df160 ∈ tb := List.mem_filter.mpr ⟨List.mem_of_getElem? (i := 286) (by decide +kernel), by decide +kernel⟩
theorem sm_yJ0_checkIndex_df160 : Cond.static yJ0_checkIndex_df160 ∈ tb := List.mem_filter.mpr ⟨List.mem_of_getElem? (i := 287) (by decide +kernel), by decide +kernel⟩
theorem co_yJ0_checkIndex_df160 : Cond.code yJ0_checkIndex_df160 cJ0_checkIndex_df160 2 none ∈ tb := List.mem_filter.mpr ⟨List.mem_of_getElem? (i := 288) (by decide +kernel), by decide +kernel⟩
theorem fl_J0_1053 : Cond.fieldLink RJ0 1053 "jdk/internal/util/Preconditions" "SIOOBE_FORMATTER" "Ljava/util/function/BiFunction;" ∈ tb := List.mem_filter.mpr ⟨List.mem_of_getElem? (i := 289) (by decide +kernel), by decide +kernel⟩
theorem ml_J0_1059 : Cond.methodLink RJ0 1059 yJ3_checkIndex_8e157 ∈ tb := List.mem_filter.mpr ⟨List.mem_of_getElem? (i := 291) (by decide +kernel), by decide +kernel⟩
theorem sm_yJ3_checkIndex_8e157 : Cond.static yJ3_checkIndex_8e157 ∈ tb := List.mem_filter.mpr ⟨List.mem_of_getElem? (i := 292) (by decide +kernel), by decide +kernel⟩
theorem ini_RJ3 : Cond.initialized RJ3 ∈ tb := List.mem_filter.mpr ⟨List.mem_of_getElem? (i := 46) (by decide +kernel), by decide +kernel⟩
theorem co_yJ3_checkIndex_8e157 : Cond.code yJ3_checkIndex_8e157 cJ3_checkIndex_8e157 3 (some .int) ∈ tb := List.mem_filter.mpr ⟨List.mem_of_getElem? (i := 293) (by decide +kernel), by decide +kernel⟩
theorem ml_J0_498 : Cond.methodLink RJ0 498 yJ2_charAt_3b067 ∈ tb := List.mem_filter.mpr ⟨List.mem_of_getElem? (i := 294) (by decide +kernel), by decide +kernel⟩
theorem sm_yJ2_charAt_3b067 : Cond.static yJ2_charAt_3b067 ∈ tb := List.mem_filter.mpr ⟨List.mem_of_getElem? (i := 295) (by decide +kernel), by decide +kernel⟩
theorem ini_RJ2 : Cond.initialized RJ2 ∈ tb := List.mem_filter.mpr ⟨List.mem_of_getElem? (i := 47) (by decide +kernel), by decide +kernel⟩
theorem co_yJ2_charAt_3b067 : Cond.code yJ2_charAt_3b067 cJ2_charAt_3b067 2 (some .char) ∈ tb := List.mem_filter.mpr ⟨List.mem_of_getElem? (i := 296) (by decide +kernel), by decide +kernel⟩
theorem ml_J2_67 : Cond.methodLink RJ2 67 yJ2_checkIndex_2214a ∈ tb := List.mem_filter.mpr ⟨List.mem_of_getElem? (i := 297) (by decide +kernel), by decide +kernel⟩
theorem sm_yJ2_checkIndex_2214a : Cond.static yJ2_checkIndex_2214a ∈ tb := List.mem_filter.mpr ⟨List.mem_of_getElem? (i := 298) (by decide +kernel), by decide +kernel⟩
theorem co_yJ2_checkIndex_2214a : Cond.code yJ2_checkIndex_2214a cJ2_checkIndex_2214a 2 none ∈ tb := List.mem_filter.mpr ⟨List.mem_of_getElem? (i := 299) (by decide +kernel), by decide +kernel⟩
theorem ml_J2_48 : Cond.methodLink RJ2 48 yJ2_length_9d52b ∈ tb := List.mem_filter.mpr ⟨List.mem_of_getElem? (i := 300) (by decide +kernel), by decide +kernel⟩
theorem sm_yJ2_length_9d52b : Cond.static yJ2_length_9d52b ∈ tb := List.mem_filter.mpr ⟨List.mem_of_getElem? (i := 301) (by decide +kernel), by decide +kernel⟩
theorem co_yJ2_length_9d52b : Cond.code yJ2_length_9d52b cJ2_length_9d52b 1 (some .int) ∈ tb := List.mem_filter.mpr ⟨List.mem_of_getElem? (i := 302) (by decide +kernel), by decide +kernel⟩
theorem ml_J2_414 : Cond.methodLink RJ2 414 yJ0_checkIndex_df160 ∈ tb := List.mem_filter.mpr ⟨List.mem_of_getElem? (i := 303) (by decide +kernel), by decide +kernel⟩
theorem ml_J2_71 : Cond.methodLink RJ2 71 yJ2_getChar_3b067 ∈ tb := List.mem_filter.mpr ⟨List.mem_of_getElem? (i := 304) (by decide +kernel), by decide +kernel⟩
theorem sm_yJ2_getChar_3b067 : Cond.static yJ2_getChar_3b067 ∈ tb := List.mem_filter.mpr ⟨List.mem_of_getElem? (i := 305) (by decide +kernel), by decide +kernel⟩
theorem co_yJ2_getChar_3b067 : Cond.code yJ2_getChar_3b067 cJ2_getChar_3b067 2 (some .char) ∈ tb := List.mem_filter.mpr ⟨List.mem_of_getElem? (i := 306) (by decide +kernel), by decide +kernel⟩
theorem fl_J2_44 : Cond.fieldLink RJ2 44 "java/lang/StringUTF16" "$assertionsDisabled" "Z" ∈ tb := List.mem_filter.mpr ⟨List.mem_of_getElem? (i := 307) (by decide +kernel), by decide +kernel⟩
theorem fl_J2_59 : Cond.fieldLink RJ2 59 "java/lang/StringUTF16" "HI_BYTE_SHIFT" "I" ∈ tb := List.mem_filter.mpr ⟨List.mem_of_getElem? (i := 309) (by decide +kernel), by decide +kernel⟩
theorem fl_J2_63 : Cond.fieldLink RJ2 63 "java/lang/StringUTF16" "LO_BYTE_SHIFT" "I" ∈ tb := List.mem_filter.mpr ⟨List.mem_of_getElem? (i := 311) (by decide +kernel), by decide +kernel⟩
theorem ml_X2_80 : Cond.methodLink RX2 80 yX2_isFigure ∈ tb := List.mem_filter.mpr ⟨List.mem_of_getElem? (i := 314) (by decide +kernel), by decide +kernel⟩
theorem sm_yX2_isFigure : Cond.static yX2_isFigure ∈ tb := List.mem_filter.mpr ⟨List.mem_of_getElem? (i := 315) (by decide +kernel), by decide +kernel⟩
theorem co_yX2_isFigure : Cond.code yX2_isFigure cX2_isFigure 1 (some .boolean) ∈ tb := List.mem_filter.mpr ⟨List.mem_of_getElem? (i := 316) (by decide +kernel), by decide +kernel⟩
theorem ml_X2_83 : Cond.methodLink RX2 83 yX2_takeFigures ∈ tb := List.mem_filter.mpr ⟨List.mem_of_getElem? (i := 317) (by decide +kernel), by decide +kernel⟩
theorem im_yX2_takeFigures : Cond.instanceMethod yX2_takeFigures ∈ tb := List.mem_filter.mpr ⟨List.mem_of_getElem? (i := 318) (by decide +kernel), by decide +kernel⟩
theorem se_RX2_yX2_takeFigures : Cond.selects RX2 yX2_takeFigures yX2_takeFigures ∈ tb := List.mem_filter.mpr ⟨List.mem_of_getElem? (i := 319) (by decide +kernel), by decide +kernel⟩
theorem co_yX2_takeFigures : Cond.code yX2_takeFigures cX2_takeFigures 7 (some .int) ∈ tb := List.mem_filter.mpr ⟨List.mem_of_getElem? (i := 320) (by decide +kernel), by decide +kernel⟩
theorem ml_X2_35 : Cond.methodLink RX2 35 yX1_startAnew ∈ tb := List.mem_filter.mpr ⟨List.mem_of_getElem? (i := 321) (by decide +kernel), by decide +kernel⟩
theorem ml_X2_40 : Cond.methodLink RX2 40 yX2_tellItem ∈ tb := List.mem_filter.mpr ⟨List.mem_of_getElem? (i := 322) (by decide +kernel), by decide +kernel⟩
theorem im_yX2_tellItem : Cond.instanceMethod yX2_tellItem ∈ tb := List.mem_filter.mpr ⟨List.mem_of_getElem? (i := 323) (by decide +kernel), by decide +kernel⟩
theorem se_RX2_yX2_tellItem : Cond.selects RX2 yX2_tellItem yX2_tellItem ∈ tb := List.mem_filter.mpr ⟨List.mem_of_getElem? (i := 324) (by decide +kernel), by decide +kernel⟩
theorem co_yX2_tellItem : Cond.code yX2_tellItem cX2_tellItem 3 (some .boolean) ∈ tb := List.mem_filter.mpr ⟨List.mem_of_getElem? (i := 325) (by decide +kernel), by decide +kernel⟩
theorem ml_X2_47 : Cond.methodLink RX2 47 yX2_passKind ∈ tb := List.mem_filter.mpr ⟨List.mem_of_getElem? (i := 326) (by decide +kernel), by decide +kernel⟩
theorem im_yX2_passKind : Cond.instanceMethod yX2_passKind ∈ tb := List.mem_filter.mpr ⟨List.mem_of_getElem? (i := 327) (by decide +kernel), by decide +kernel⟩
theorem se_RX2_yX2_passKind : Cond.selects RX2 yX2_passKind yX2_passKind ∈ tb := List.mem_filter.mpr ⟨List.mem_of_getElem? (i := 328) (by decide +kernel), by decide +kernel⟩
theorem co_yX2_passKind : Cond.code yX2_passKind cX2_passKind 2 (some .boolean) ∈ tb := List.mem_filter.mpr ⟨List.mem_of_getElem? (i := 329) (by decide +kernel), by decide +kernel⟩
theorem ml_X2_51 : Cond.methodLink RX2 51 yX2_tellCopies ∈ tb := List.mem_filter.mpr ⟨List.mem_of_getElem? (i := 330) (by decide +kernel), by decide +kernel⟩
theorem im_yX2_tellCopies : Cond.instanceMethod yX2_tellCopies ∈ tb := List.mem_filter.mpr ⟨List.mem_of_getElem? (i := 331) (by decide +kernel), by decide +kernel⟩
theorem se_RX2_yX2_tellCopies : Cond.selects RX2 yX2_tellCopies yX2_tellCopies ∈ tb := List.mem_filter.mpr ⟨List.mem_of_getElem? (i := 332) (by decide +kernel), by decide +kernel⟩
theorem co_yX2_tellCopies : Cond.code yX2_tellCopies cX2_tellCopies 2 (some .boolean) ∈ tb := List.mem_filter.mpr ⟨List.mem_of_getElem? (i := 333) (by decide +kernel), by decide +kernel⟩
theorem fl_X2_62 : Cond.fieldLink RX2 62 "StaleBounds$Ledger" "copies" "I" ∈ tb := List.mem_filter.mpr ⟨List.mem_of_getElem? (i := 88) (by decide +kernel), by decide +kernel⟩
theorem ml_X2_58 : Cond.methodLink RX2 58 yX2_passNumber ∈ tb := List.mem_filter.mpr ⟨List.mem_of_getElem? (i := 334) (by decide +kernel), by decide +kernel⟩
theorem im_yX2_passNumber : Cond.instanceMethod yX2_passNumber ∈ tb := List.mem_filter.mpr ⟨List.mem_of_getElem? (i := 335) (by decide +kernel), by decide +kernel⟩
theorem se_RX2_yX2_passNumber : Cond.selects RX2 yX2_passNumber yX2_passNumber ∈ tb := List.mem_filter.mpr ⟨List.mem_of_getElem? (i := 336) (by decide +kernel), by decide +kernel⟩
theorem co_yX2_passNumber : Cond.code yX2_passNumber cX2_passNumber 3 (some .boolean) ∈ tb := List.mem_filter.mpr ⟨List.mem_of_getElem? (i := 337) (by decide +kernel), by decide +kernel⟩
theorem ml_X2_55 : Cond.methodLink RX2 55 yX2_tellBounds ∈ tb := List.mem_filter.mpr ⟨List.mem_of_getElem? (i := 338) (by decide +kernel), by decide +kernel⟩
theorem im_yX2_tellBounds : Cond.instanceMethod yX2_tellBounds ∈ tb := List.mem_filter.mpr ⟨List.mem_of_getElem? (i := 339) (by decide +kernel), by decide +kernel⟩
theorem se_RX2_yX2_tellBounds : Cond.selects RX2 yX2_tellBounds yX2_tellBounds ∈ tb := List.mem_filter.mpr ⟨List.mem_of_getElem? (i := 340) (by decide +kernel), by decide +kernel⟩
theorem co_yX2_tellBounds : Cond.code yX2_tellBounds cX2_tellBounds 3 (some .boolean) ∈ tb := List.mem_filter.mpr ⟨List.mem_of_getElem? (i := 341) (by decide +kernel), by decide +kernel⟩
theorem ml_X2_65 : Cond.methodLink RX2 65 yX1_setBounds ∈ tb := List.mem_filter.mpr ⟨List.mem_of_getElem? (i := 342) (by decide +kernel), by decide +kernel⟩
theorem im_yX1_setBounds : Cond.instanceMethod yX1_setBounds ∈ tb := List.mem_filter.mpr ⟨List.mem_of_getElem? (i := 343) (by decide +kernel), by decide +kernel⟩
theorem se_RX1_yX1_setBounds : Cond.selects RX1 yX1_setBounds yX1_setBounds ∈ tb := List.mem_filter.mpr ⟨List.mem_of_getElem? (i := 344) (by decide +kernel), by decide +kernel⟩
theorem co_yX1_setBounds : Cond.code yX1_setBounds cX1_setBounds 5 none ∈ tb := List.mem_filter.mpr ⟨List.mem_of_getElem? (i := 345) (by decide +kernel), by decide +kernel⟩
theorem ml_X2_44 : Cond.methodLink RX2 44 yX1_splitAllNumbers ∈ tb := List.mem_filter.mpr ⟨List.mem_of_getElem? (i := 346) (by decide +kernel), by decide +kernel⟩
theorem ml_X3_70 : Cond.methodLink RX3 70 yX0_remember ∈ tb := List.mem_filter.mpr ⟨List.mem_of_getElem? (i := 347) (by decide +kernel), by decide +kernel⟩
theorem im_yX0_remember : Cond.instanceMethod yX0_remember ∈ tb := List.mem_filter.mpr ⟨List.mem_of_getElem? (i := 348) (by decide +kernel), by decide +kernel⟩
theorem se_RX0_yX0_remember : Cond.selects RX0 yX0_remember yX0_remember ∈ tb := List.mem_filter.mpr ⟨List.mem_of_getElem? (i := 349) (by decide +kernel), by decide +kernel⟩
theorem co_yX0_remember : Cond.code yX0_remember cX0_remember 2 none ∈ tb := List.mem_filter.mpr ⟨List.mem_of_getElem? (i := 350) (by decide +kernel), by decide +kernel⟩
theorem ml_X0_29 : Cond.methodLink RX0 29 Lib.Math.min.name ∈ tb := List.mem_filter.mpr ⟨List.mem_of_getElem? (i := 358) (by decide +kernel), by decide +kernel⟩
theorem sm_Lib_Math_min_name : Cond.static Lib.Math.min.name ∈ tb := List.mem_filter.mpr ⟨List.mem_of_getElem? (i := 359) (by decide +kernel), by decide +kernel⟩
theorem ini__java_lang_Math_ : Cond.initialized "java/lang/Math" ∈ tb := List.mem_filter.mpr ⟨List.mem_of_getElem? (i := 49) (by decide +kernel), by decide +kernel⟩
theorem co_Lib_Math_min_name : Cond.code Lib.Math.min.name Lib.Math.min.code 2 (some .int) ∈ tb := List.mem_filter.mpr ⟨List.mem_of_getElem? (i := 360) (by decide +kernel), by decide +kernel⟩
theorem ml_X0_25 : Cond.methodLink RX0 25 yX1_takeFrom ∈ tb := List.mem_filter.mpr ⟨List.mem_of_getElem? (i := 351) (by decide +kernel), by decide +kernel⟩
theorem im_yX1_takeFrom : Cond.instanceMethod yX1_takeFrom ∈ tb := List.mem_filter.mpr ⟨List.mem_of_getElem? (i := 352) (by decide +kernel), by decide +kernel⟩
theorem se_RX1_yX1_takeFrom : Cond.selects RX1 yX1_takeFrom yX1_takeFrom ∈ tb := List.mem_filter.mpr ⟨List.mem_of_getElem? (i := 353) (by decide +kernel), by decide +kernel⟩
theorem co_yX1_takeFrom : Cond.code yX1_takeFrom cX1_takeFrom 2 none ∈ tb := List.mem_filter.mpr ⟨List.mem_of_getElem? (i := 354) (by decide +kernel), by decide +kernel⟩
theorem ml_X1_64 : Cond.methodLink RX1 64 arraycopyName ∈ tb := List.mem_filter.mpr ⟨List.mem_of_getElem? (i := 355) (by decide +kernel), by decide +kernel⟩
theorem nat_arraycopyName : Cond.native arraycopyName ∈ tb := List.mem_filter.mpr ⟨List.mem_of_getElem? (i := 357) (by decide +kernel), by decide +kernel⟩
theorem sm_arraycopyName : Cond.static arraycopyName ∈ tb := List.mem_filter.mpr ⟨List.mem_of_getElem? (i := 356) (by decide +kernel), by decide +kernel⟩
theorem ini__java_lang_System_ : Cond.initialized "java/lang/System" ∈ tb := List.mem_filter.mpr ⟨List.mem_of_getElem? (i := 48) (by decide +kernel), by decide +kernel⟩
theorem ml_X3_74 : Cond.methodLink RX3 74 yX1_takeFrom ∈ tb := List.mem_filter.mpr ⟨List.mem_of_getElem? (i := 361) (by decide +kernel), by decide +kernel⟩
theorem ml_L_26 : Cond.methodLink RL 26 yX4_tells ∈ tb := List.mem_filter.mpr ⟨List.mem_of_getElem? (i := 658) (by decide +kernel), by decide +kernel⟩
theorem im_yX4_tells : Cond.instanceMethod yX4_tells ∈ tb := List.mem_filter.mpr ⟨List.mem_of_getElem? (i := 659) (by decide +kernel), by decide +kernel⟩
theorem se_RX4_yX4_tells : Cond.selects RX4 yX4_tells yX4_tells ∈ tb := List.mem_filter.mpr ⟨List.mem_of_getElem? (i := 660) (by decide +kernel), by decide +kernel⟩
theorem co_yX4_tells : Cond.code yX4_tells cX4_tells 2 (some .int) ∈ tb := List.mem_filter.mpr ⟨List.mem_of_getElem? (i := 661) (by decide +kernel), by decide +kernel⟩
theorem fl_X4_105 : Cond.fieldLink RX4 105 "StaleBoundsModel" "items" "I" ∈ tb := List.mem_filter.mpr ⟨List.mem_of_getElem? (i := 611) (by decide +kernel), by decide +kernel⟩
theorem ml_X4_112 : Cond.methodLink RX4 112 yX4_parse ∈ tb := List.mem_filter.mpr ⟨List.mem_of_getElem? (i := 662) (by decide +kernel), by decide +kernel⟩
theorem im_yX4_parse : Cond.instanceMethod yX4_parse ∈ tb := List.mem_filter.mpr ⟨List.mem_of_getElem? (i := 664) (by decide +kernel), by decide +kernel⟩
theorem se_RX4_yX4_parse : Cond.selects RX4 yX4_parse yX4_parse ∈ tb := List.mem_filter.mpr ⟨List.mem_of_getElem? (i := 7) (by decide +kernel), by decide +kernel⟩
theorem co_yX4_parse : Cond.code yX4_parse cX4_parse 1 (some .int) ∈ tb := List.mem_filter.mpr ⟨List.mem_of_getElem? (i := 665) (by decide +kernel), by decide +kernel⟩
theorem fl_X4_57 : Cond.fieldLink RX4 57 "StaleBoundsModel" "at" "I" ∈ tb := List.mem_filter.mpr ⟨List.mem_of_getElem? (i := 604) (by decide +kernel), by decide +kernel⟩
theorem fl_X4_78 : Cond.fieldLink RX4 78 "StaleBoundsModel" "token" "I" ∈ tb := List.mem_filter.mpr ⟨List.mem_of_getElem? (i := 605) (by decide +kernel), by decide +kernel⟩
theorem fl_X4_67 : Cond.fieldLink RX4 67 "StaleBoundsModel" "tokenAt" "I" ∈ tb := List.mem_filter.mpr ⟨List.mem_of_getElem? (i := 606) (by decide +kernel), by decide +kernel⟩
theorem ml_X4_95 : Cond.methodLink RX4 95 yX4_next ∈ tb := List.mem_filter.mpr ⟨List.mem_of_getElem? (i := 666) (by decide +kernel), by decide +kernel⟩
theorem im_yX4_next : Cond.instanceMethod yX4_next ∈ tb := List.mem_filter.mpr ⟨List.mem_of_getElem? (i := 668) (by decide +kernel), by decide +kernel⟩
theorem se_RX4_yX4_next : Cond.selects RX4 yX4_next yX4_next ∈ tb := List.mem_filter.mpr ⟨List.mem_of_getElem? (i := 8) (by decide +kernel), by decide +kernel⟩
theorem co_yX4_next : Cond.code yX4_next cX4_next 1 none ∈ tb := List.mem_filter.mpr ⟨List.mem_of_getElem? (i := 669) (by decide +kernel), by decide +kernel⟩
theorem fl_X4_92 : Cond.fieldLink RX4 92 "StaleBoundsModel" "value" "I" ∈ tb := List.mem_filter.mpr ⟨List.mem_of_getElem? (i := 607) (by decide +kernel), by decide +kernel⟩
theorem ml_X4_81 : Cond.methodLink RX4 81 yX4_isLetter ∈ tb := List.mem_filter.mpr ⟨List.mem_of_getElem? (i := 670) (by decide +kernel), by decide +kernel⟩
theorem im_yX4_isLetter : Cond.instanceMethod yX4_isLetter ∈ tb := List.mem_filter.mpr ⟨List.mem_of_getElem? (i := 672) (by decide +kernel), by decide +kernel⟩
theorem se_RX4_yX4_isLetter : Cond.selects RX4 yX4_isLetter yX4_isLetter ∈ tb := List.mem_filter.mpr ⟨List.mem_of_getElem? (i := 9) (by decide +kernel), by decide +kernel⟩
theorem co_yX4_isLetter : Cond.code yX4_isLetter cX4_isLetter 1 (some .boolean) ∈ tb := List.mem_filter.mpr ⟨List.mem_of_getElem? (i := 673) (by decide +kernel), by decide +kernel⟩
theorem ml_X4_85 : Cond.methodLink RX4 85 yX4_wordToken ∈ tb := List.mem_filter.mpr ⟨List.mem_of_getElem? (i := 674) (by decide +kernel), by decide +kernel⟩
theorem im_yX4_wordToken : Cond.instanceMethod yX4_wordToken ∈ tb := List.mem_filter.mpr ⟨List.mem_of_getElem? (i := 676) (by decide +kernel), by decide +kernel⟩
theorem se_RX4_yX4_wordToken : Cond.selects RX4 yX4_wordToken yX4_wordToken ∈ tb := List.mem_filter.mpr ⟨List.mem_of_getElem? (i := 10) (by decide +kernel), by decide +kernel⟩
theorem co_yX4_wordToken : Cond.code yX4_wordToken cX4_wordToken 4 (some .int) ∈ tb := List.mem_filter.mpr ⟨List.mem_of_getElem? (i := 677) (by decide +kernel), by decide +kernel⟩
theorem con_RX4_70__32_ : Cond.constantLong RX4 70 (32) ∈ tb := List.mem_filter.mpr ⟨List.mem_of_getElem? (i := 678) (by decide +kernel), by decide +kernel⟩
theorem con_RX4_72__97_ : Cond.constantLong RX4 72 (97) ∈ tb := List.mem_filter.mpr ⟨List.mem_of_getElem? (i := 679) (by decide +kernel), by decide +kernel⟩
theorem con_RX4_74__643088867_ : Cond.constantLong RX4 74 (643088867) ∈ tb := List.mem_filter.mpr ⟨List.mem_of_getElem? (i := 680) (by decide +kernel), by decide +kernel⟩
theorem con_RX4_76__642209250_ : Cond.constantLong RX4 76 (642209250) ∈ tb := List.mem_filter.mpr ⟨List.mem_of_getElem? (i := 681) (by decide +kernel), by decide +kernel⟩
theorem ml_X4_89 : Cond.methodLink RX4 89 yX4_isDigit ∈ tb := List.mem_filter.mpr ⟨List.mem_of_getElem? (i := 682) (by decide +kernel), by decide +kernel⟩
theorem im_yX4_isDigit : Cond.instanceMethod yX4_isDigit ∈ tb := List.mem_filter.mpr ⟨List.mem_of_getElem? (i := 684) (by decide +kernel), by decide +kernel⟩
theorem se_RX4_yX4_isDigit : Cond.selects RX4 yX4_isDigit yX4_isDigit ∈ tb := List.mem_filter.mpr ⟨List.mem_of_getElem? (i := 11) (by decide +kernel), by decide +kernel⟩
theorem co_yX4_isDigit : Cond.code yX4_isDigit cX4_isDigit 1 (some .boolean) ∈ tb := List.mem_filter.mpr ⟨List.mem_of_getElem? (i := 685) (by decide +kernel), by decide +kernel⟩
theorem ml_X4_108 : Cond.methodLink RX4 108 yX4_readItem ∈ tb := List.mem_filter.mpr ⟨List.mem_of_getElem? (i := 686) (by decide +kernel), by decide +kernel⟩
theorem im_yX4_readItem : Cond.instanceMethod yX4_readItem ∈ tb := List.mem_filter.mpr ⟨List.mem_of_getElem? (i := 688) (by decide +kernel), by decide +kernel⟩
theorem se_RX4_yX4_readItem : Cond.selects RX4 yX4_readItem yX4_readItem ∈ tb := List.mem_filter.mpr ⟨List.mem_of_getElem? (i := 12) (by decide +kernel), by decide +kernel⟩
theorem co_yX4_readItem : Cond.code yX4_readItem cX4_readItem 3 (some .boolean) ∈ tb := List.mem_filter.mpr ⟨List.mem_of_getElem? (i := 689) (by decide +kernel), by decide +kernel⟩
theorem ml_X4_98 : Cond.methodLink RX4 98 yX4_readNumber ∈ tb := List.mem_filter.mpr ⟨List.mem_of_getElem? (i := 690) (by decide +kernel), by decide +kernel⟩
theorem im_yX4_readNumber : Cond.instanceMethod yX4_readNumber ∈ tb := List.mem_filter.mpr ⟨List.mem_of_getElem? (i := 692) (by decide +kernel), by decide +kernel⟩
theorem se_RX4_yX4_readNumber : Cond.selects RX4 yX4_readNumber yX4_readNumber ∈ tb := List.mem_filter.mpr ⟨List.mem_of_getElem? (i := 13) (by decide +kernel), by decide +kernel⟩
theorem co_yX4_readNumber : Cond.code yX4_readNumber cX4_readNumber 3 (some .boolean) ∈ tb := List.mem_filter.mpr ⟨List.mem_of_getElem? (i := 693) (by decide +kernel), by decide +kernel⟩
theorem ml_X4_102 : Cond.methodLink RX4 102 yX4_readBounds ∈ tb := List.mem_filter.mpr ⟨List.mem_of_getElem? (i := 694) (by decide +kernel), by decide +kernel⟩
theorem im_yX4_readBounds : Cond.instanceMethod yX4_readBounds ∈ tb := List.mem_filter.mpr ⟨List.mem_of_getElem? (i := 696) (by decide +kernel), by decide +kernel⟩
theorem se_RX4_yX4_readBounds : Cond.selects RX4 yX4_readBounds yX4_readBounds ∈ tb := List.mem_filter.mpr ⟨List.mem_of_getElem? (i := 14) (by decide +kernel), by decide +kernel⟩
theorem co_yX4_readBounds : Cond.code yX4_readBounds cX4_readBounds 3 (some .boolean) ∈ tb := List.mem_filter.mpr ⟨List.mem_of_getElem? (i := 697) (by decide +kernel), by decide +kernel⟩
theorem ml_X4_115 : Cond.methodLink RX4 115 yX4_save ∈ tb := List.mem_filter.mpr ⟨List.mem_of_getElem? (i := 698) (by decide +kernel), by decide +kernel⟩
theorem im_yX4_save : Cond.instanceMethod yX4_save ∈ tb := List.mem_filter.mpr ⟨List.mem_of_getElem? (i := 700) (by decide +kernel), by decide +kernel⟩
theorem se_RX4_yX4_save : Cond.selects RX4 yX4_save yX4_save ∈ tb := List.mem_filter.mpr ⟨List.mem_of_getElem? (i := 15) (by decide +kernel), by decide +kernel⟩
theorem co_yX4_save : Cond.code yX4_save cX4_save 2 none ∈ tb := List.mem_filter.mpr ⟨List.mem_of_getElem? (i := 701) (by decide +kernel), by decide +kernel⟩
theorem fl_X4_49 : Cond.fieldLink RX4 49 "StaleBoundsModel" "historySize" "I" ∈ tb := List.mem_filter.mpr ⟨List.mem_of_getElem? (i := 599) (by decide +kernel), by decide +kernel⟩
theorem ml_L_27 : Cond.methodLink RL 27 yX3_accepts ∈ tb := List.mem_filter.mpr ⟨List.mem_of_getElem? (i := 363) (by decide +kernel), by decide +kernel⟩
theorem im_yX3_accepts : Cond.instanceMethod yX3_accepts ∈ tb := List.mem_filter.mpr ⟨List.mem_of_getElem? (i := 364) (by decide +kernel), by decide +kernel⟩
theorem se_RX3_yX3_accepts : Cond.selects RX3 yX3_accepts yX3_accepts ∈ tb := List.mem_filter.mpr ⟨List.mem_of_getElem? (i := 365) (by decide +kernel), by decide +kernel⟩
theorem co_yX3_accepts : Cond.code yX3_accepts cX3_accepts 3 (some .int) ∈ tb := List.mem_filter.mpr ⟨List.mem_of_getElem? (i := 366) (by decide +kernel), by decide +kernel⟩
theorem fl_X3_81 : Cond.fieldLink RX3 81 "StaleBounds$Ledger" "writes" "I" ∈ tb := List.mem_filter.mpr ⟨List.mem_of_getElem? (i := 93) (by decide +kernel), by decide +kernel⟩
theorem ml_X3_77 : Cond.methodLink RX3 77 yX3_isCopy ∈ tb := List.mem_filter.mpr ⟨List.mem_of_getElem? (i := 367) (by decide +kernel), by decide +kernel⟩
theorem im_yX3_isCopy : Cond.instanceMethod yX3_isCopy ∈ tb := List.mem_filter.mpr ⟨List.mem_of_getElem? (i := 369) (by decide +kernel), by decide +kernel⟩
theorem se_RX3_yX3_isCopy : Cond.selects RX3 yX3_isCopy yX3_isCopy ∈ tb := List.mem_filter.mpr ⟨List.mem_of_getElem? (i := 0) (by decide +kernel), by decide +kernel⟩
theorem co_yX3_isCopy : Cond.code yX3_isCopy cX3_isCopy 2 (some .boolean) ∈ tb := List.mem_filter.mpr ⟨List.mem_of_getElem? (i := 370) (by decide +kernel), by decide +kernel⟩
theorem fl_X3_183 : Cond.fieldLink RX3 183 "StaleBounds$Ledger" "copies" "I" ∈ tb := List.mem_filter.mpr ⟨List.mem_of_getElem? (i := 89) (by decide +kernel), by decide +kernel⟩
theorem ml_X3_84 : Cond.methodLink RX3 84 yX1_accept ∈ tb := List.mem_filter.mpr ⟨List.mem_of_getElem? (i := 371) (by decide +kernel), by decide +kernel⟩
theorem im_yX1_accept : Cond.instanceMethod yX1_accept ∈ tb := List.mem_filter.mpr ⟨List.mem_of_getElem? (i := 372) (by decide +kernel), by decide +kernel⟩
theorem se_RX1_yX1_accept : Cond.selects RX1 yX1_accept yX1_accept ∈ tb := List.mem_filter.mpr ⟨List.mem_of_getElem? (i := 373) (by decide +kernel), by decide +kernel⟩
theorem co_yX1_accept : Cond.code yX1_accept cX1_accept 5 (some .int) ∈ tb := List.mem_filter.mpr ⟨List.mem_of_getElem? (i := 374) (by decide +kernel), by decide +kernel⟩
theorem ml_X1_113 : Cond.methodLink RX1 113 yX1_learn ∈ tb := List.mem_filter.mpr ⟨List.mem_of_getElem? (i := 375) (by decide +kernel), by decide +kernel⟩
theorem im_yX1_learn : Cond.instanceMethod yX1_learn ∈ tb := List.mem_filter.mpr ⟨List.mem_of_getElem? (i := 376) (by decide +kernel), by decide +kernel⟩
theorem se_RX1_yX1_learn : Cond.selects RX1 yX1_learn yX1_learn ∈ tb := List.mem_filter.mpr ⟨List.mem_of_getElem? (i := 377) (by decide +kernel), by decide +kernel⟩
theorem co_yX1_learn : Cond.code yX1_learn cX1_learn 3 none ∈ tb := List.mem_filter.mpr ⟨List.mem_of_getElem? (i := 378) (by decide +kernel), by decide +kernel⟩
theorem ml_X1_117 : Cond.methodLink RX1 117 yX1_pushIfOver ∈ tb := List.mem_filter.mpr ⟨List.mem_of_getElem? (i := 379) (by decide +kernel), by decide +kernel⟩
theorem im_yX1_pushIfOver : Cond.instanceMethod yX1_pushIfOver ∈ tb := List.mem_filter.mpr ⟨List.mem_of_getElem? (i := 380) (by decide +kernel), by decide +kernel⟩
theorem se_RX1_yX1_pushIfOver : Cond.selects RX1 yX1_pushIfOver yX1_pushIfOver ∈ tb := List.mem_filter.mpr ⟨List.mem_of_getElem? (i := 381) (by decide +kernel), by decide +kernel⟩
theorem co_yX1_pushIfOver : Cond.code yX1_pushIfOver cX1_pushIfOver 3 (some .boolean) ∈ tb := List.mem_filter.mpr ⟨List.mem_of_getElem? (i := 382) (by decide +kernel), by decide +kernel⟩
theorem ml_X1_105 : Cond.methodLink RX1 105 yX1_left ∈ tb := List.mem_filter.mpr ⟨List.mem_of_getElem? (i := 383) (by decide +kernel), by decide +kernel⟩
theorem im_yX1_left : Cond.instanceMethod yX1_left ∈ tb := List.mem_filter.mpr ⟨List.mem_of_getElem? (i := 384) (by decide +kernel), by decide +kernel⟩
theorem se_RX1_yX1_left : Cond.selects RX1 yX1_left yX1_left ∈ tb := List.mem_filter.mpr ⟨List.mem_of_getElem? (i := 385) (by decide +kernel), by decide +kernel⟩
theorem co_yX1_left : Cond.code yX1_left cX1_left 3 (some .int) ∈ tb := List.mem_filter.mpr ⟨List.mem_of_getElem? (i := 386) (by decide +kernel), by decide +kernel⟩
theorem ml_X1_102 : Cond.methodLink RX1 102 yX1_owed ∈ tb := List.mem_filter.mpr ⟨List.mem_of_getElem? (i := 387) (by decide +kernel), by decide +kernel⟩
theorem im_yX1_owed : Cond.instanceMethod yX1_owed ∈ tb := List.mem_filter.mpr ⟨List.mem_of_getElem? (i := 388) (by decide +kernel), by decide +kernel⟩
theorem se_RX1_yX1_owed : Cond.selects RX1 yX1_owed yX1_owed ∈ tb := List.mem_filter.mpr ⟨List.mem_of_getElem? (i := 389) (by decide +kernel), by decide +kernel⟩
theorem co_yX1_owed : Cond.code yX1_owed cX1_owed 3 (some .int) ∈ tb := List.mem_filter.mpr ⟨List.mem_of_getElem? (i := 390) (by decide +kernel), by decide +kernel⟩
theorem ml_X1_99 : Cond.methodLink RX1 99 yX1_writesBy ∈ tb := List.mem_filter.mpr ⟨List.mem_of_getElem? (i := 391) (by decide +kernel), by decide +kernel⟩
theorem im_yX1_writesBy : Cond.instanceMethod yX1_writesBy ∈ tb := List.mem_filter.mpr ⟨List.mem_of_getElem? (i := 392) (by decide +kernel), by decide +kernel⟩
theorem se_RX1_yX1_writesBy : Cond.selects RX1 yX1_writesBy yX1_writesBy ∈ tb := List.mem_filter.mpr ⟨List.mem_of_getElem? (i := 393) (by decide +kernel), by decide +kernel⟩
theorem co_yX1_writesBy : Cond.code yX1_writesBy cX1_writesBy 4 (some .int) ∈ tb := List.mem_filter.mpr ⟨List.mem_of_getElem? (i := 394) (by decide +kernel), by decide +kernel⟩
theorem ml_X1_86 : Cond.methodLink RX1 86 yX1_weightOf ∈ tb := List.mem_filter.mpr ⟨List.mem_of_getElem? (i := 395) (by decide +kernel), by decide +kernel⟩
theorem im_yX1_weightOf : Cond.instanceMethod yX1_weightOf ∈ tb := List.mem_filter.mpr ⟨List.mem_of_getElem? (i := 396) (by decide +kernel), by decide +kernel⟩
theorem se_RX1_yX1_weightOf : Cond.selects RX1 yX1_weightOf yX1_weightOf ∈ tb := List.mem_filter.mpr ⟨List.mem_of_getElem? (i := 397) (by decide +kernel), by decide +kernel⟩
theorem co_yX1_weightOf : Cond.code yX1_weightOf cX1_weightOf 4 (some .int) ∈ tb := List.mem_filter.mpr ⟨List.mem_of_getElem? (i := 398) (by decide +kernel), by decide +kernel⟩
theorem sm_yX3_hasBit : Cond.static yX3_hasBit ∈ tb := List.mem_filter.mpr ⟨List.mem_of_getElem? (i := 400) (by decide +kernel), by decide +kernel⟩
theorem co_yX3_hasBit : Cond.code yX3_hasBit cX3_hasBit 2 (some .boolean) ∈ tb := List.mem_filter.mpr ⟨List.mem_of_getElem? (i := 401) (by decide +kernel), by decide +kernel⟩
theorem ml_L_31 : Cond.methodLink RL 31 yX4_accepts ∈ tb := List.mem_filter.mpr ⟨List.mem_of_getElem? (i := 702) (by decide +kernel), by decide +kernel⟩
theorem im_yX4_accepts : Cond.instanceMethod yX4_accepts ∈ tb := List.mem_filter.mpr ⟨List.mem_of_getElem? (i := 703) (by decide +kernel), by decide +kernel⟩
theorem se_RX4_yX4_accepts : Cond.selects RX4 yX4_accepts yX4_accepts ∈ tb := List.mem_filter.mpr ⟨List.mem_of_getElem? (i := 704) (by decide +kernel), by decide +kernel⟩
theorem co_yX4_accepts : Cond.code yX4_accepts cX4_accepts 6 (some .int) ∈ tb := List.mem_filter.mpr ⟨List.mem_of_getElem? (i := 705) (by decide +kernel), by decide +kernel⟩
theorem ml_X4_118 : Cond.methodLink RX4 118 yX4_isCopy ∈ tb := List.mem_filter.mpr ⟨List.mem_of_getElem? (i := 706) (by decide +kernel), by decide +kernel⟩
theorem im_yX4_isCopy : Cond.instanceMethod yX4_isCopy ∈ tb := List.mem_filter.mpr ⟨List.mem_of_getElem? (i := 708) (by decide +kernel), by decide +kernel⟩
theorem se_RX4_yX4_isCopy : Cond.selects RX4 yX4_isCopy yX4_isCopy ∈ tb := List.mem_filter.mpr ⟨List.mem_of_getElem? (i := 16) (by decide +kernel), by decide +kernel⟩
theorem co_yX4_isCopy : Cond.code yX4_isCopy cX4_isCopy 2 (some .boolean) ∈ tb := List.mem_filter.mpr ⟨List.mem_of_getElem? (i := 709) (by decide +kernel), by decide +kernel⟩
theorem ml_X4_145 : Cond.methodLink RX4 145 yX4_keepZeroFast ∈ tb := List.mem_filter.mpr ⟨List.mem_of_getElem? (i := 710) (by decide +kernel), by decide +kernel⟩
theorem im_yX4_keepZeroFast : Cond.instanceMethod yX4_keepZeroFast ∈ tb := List.mem_filter.mpr ⟨List.mem_of_getElem? (i := 712) (by decide +kernel), by decide +kernel⟩
theorem se_RX4_yX4_keepZeroFast : Cond.selects RX4 yX4_keepZeroFast yX4_keepZeroFast ∈ tb := List.mem_filter.mpr ⟨List.mem_of_getElem? (i := 17) (by decide +kernel), by decide +kernel⟩
theorem co_yX4_keepZeroFast : Cond.code yX4_keepZeroFast cX4_keepZeroFast 1 none ∈ tb := List.mem_filter.mpr ⟨List.mem_of_getElem? (i := 713) (by decide +kernel), by decide +kernel⟩
theorem ml_X4_158 : Cond.methodLink RX4 158 yX4_left ∈ tb := List.mem_filter.mpr ⟨List.mem_of_getElem? (i := 714) (by decide +kernel), by decide +kernel⟩
theorem im_yX4_left : Cond.instanceMethod yX4_left ∈ tb := List.mem_filter.mpr ⟨List.mem_of_getElem? (i := 716) (by decide +kernel), by decide +kernel⟩
theorem se_RX4_yX4_left : Cond.selects RX4 yX4_left yX4_left ∈ tb := List.mem_filter.mpr ⟨List.mem_of_getElem? (i := 18) (by decide +kernel), by decide +kernel⟩
theorem co_yX4_left : Cond.code yX4_left cX4_left 3 (some .int) ∈ tb := List.mem_filter.mpr ⟨List.mem_of_getElem? (i := 717) (by decide +kernel), by decide +kernel⟩
theorem ml_X4_132 : Cond.methodLink RX4 132 yX4_budgetCell ∈ tb := List.mem_filter.mpr ⟨List.mem_of_getElem? (i := 718) (by decide +kernel), by decide +kernel⟩
theorem im_yX4_budgetCell : Cond.instanceMethod yX4_budgetCell ∈ tb := List.mem_filter.mpr ⟨List.mem_of_getElem? (i := 720) (by decide +kernel), by decide +kernel⟩
theorem se_RX4_yX4_budgetCell : Cond.selects RX4 yX4_budgetCell yX4_budgetCell ∈ tb := List.mem_filter.mpr ⟨List.mem_of_getElem? (i := 19) (by decide +kernel), by decide +kernel⟩
theorem co_yX4_budgetCell : Cond.code yX4_budgetCell cX4_budgetCell 3 (some .int) ∈ tb := List.mem_filter.mpr ⟨List.mem_of_getElem? (i := 721) (by decide +kernel), by decide +kernel⟩
theorem ml_X4_136 : Cond.methodLink RX4 136 yX4_owed ∈ tb := List.mem_filter.mpr ⟨List.mem_of_getElem? (i := 722) (by decide +kernel), by decide +kernel⟩
theorem im_yX4_owed : Cond.instanceMethod yX4_owed ∈ tb := List.mem_filter.mpr ⟨List.mem_of_getElem? (i := 724) (by decide +kernel), by decide +kernel⟩
theorem se_RX4_yX4_owed : Cond.selects RX4 yX4_owed yX4_owed ∈ tb := List.mem_filter.mpr ⟨List.mem_of_getElem? (i := 20) (by decide +kernel), by decide +kernel⟩
theorem co_yX4_owed : Cond.code yX4_owed cX4_owed 3 (some .int) ∈ tb := List.mem_filter.mpr ⟨List.mem_of_getElem? (i := 725) (by decide +kernel), by decide +kernel⟩
theorem ml_X4_126 : Cond.methodLink RX4 126 yX4_acceptedBy ∈ tb := List.mem_filter.mpr ⟨List.mem_of_getElem? (i := 726) (by decide +kernel), by decide +kernel⟩
theorem im_yX4_acceptedBy : Cond.instanceMethod yX4_acceptedBy ∈ tb := List.mem_filter.mpr ⟨List.mem_of_getElem? (i := 728) (by decide +kernel), by decide +kernel⟩
theorem se_RX4_yX4_acceptedBy : Cond.selects RX4 yX4_acceptedBy yX4_acceptedBy ∈ tb := List.mem_filter.mpr ⟨List.mem_of_getElem? (i := 21) (by decide +kernel), by decide +kernel⟩
theorem co_yX4_acceptedBy : Cond.code yX4_acceptedBy cX4_acceptedBy 4 (some .int) ∈ tb := List.mem_filter.mpr ⟨List.mem_of_getElem? (i := 729) (by decide +kernel), by decide +kernel⟩
theorem ml_X4_129 : Cond.methodLink RX4 129 yX4_sumOf ∈ tb := List.mem_filter.mpr ⟨List.mem_of_getElem? (i := 730) (by decide +kernel), by decide +kernel⟩
theorem im_yX4_sumOf : Cond.instanceMethod yX4_sumOf ∈ tb := List.mem_filter.mpr ⟨List.mem_of_getElem? (i := 732) (by decide +kernel), by decide +kernel⟩
theorem se_RX4_yX4_sumOf : Cond.selects RX4 yX4_sumOf yX4_sumOf ∈ tb := List.mem_filter.mpr ⟨List.mem_of_getElem? (i := 22) (by decide +kernel), by decide +kernel⟩
theorem co_yX4_sumOf : Cond.code yX4_sumOf cX4_sumOf 4 (some .int) ∈ tb := List.mem_filter.mpr ⟨List.mem_of_getElem? (i := 733) (by decide +kernel), by decide +kernel⟩
theorem ml_X4_122 : Cond.methodLink RX4 122 yX4_weight ∈ tb := List.mem_filter.mpr ⟨List.mem_of_getElem? (i := 734) (by decide +kernel), by decide +kernel⟩
theorem im_yX4_weight : Cond.instanceMethod yX4_weight ∈ tb := List.mem_filter.mpr ⟨List.mem_of_getElem? (i := 736) (by decide +kernel), by decide +kernel⟩
theorem se_RX4_yX4_weight : Cond.selects RX4 yX4_weight yX4_weight ∈ tb := List.mem_filter.mpr ⟨List.mem_of_getElem? (i := 23) (by decide +kernel), by decide +kernel⟩
theorem co_yX4_weight : Cond.code yX4_weight cX4_weight 2 (some .int) ∈ tb := List.mem_filter.mpr ⟨List.mem_of_getElem? (i := 737) (by decide +kernel), by decide +kernel⟩
theorem ml_X4_161 : Cond.methodLink RX4 161 yX4_push ∈ tb := List.mem_filter.mpr ⟨List.mem_of_getElem? (i := 738) (by decide +kernel), by decide +kernel⟩
theorem im_yX4_push : Cond.instanceMethod yX4_push ∈ tb := List.mem_filter.mpr ⟨List.mem_of_getElem? (i := 740) (by decide +kernel), by decide +kernel⟩
theorem se_RX4_yX4_push : Cond.selects RX4 yX4_push yX4_push ∈ tb := List.mem_filter.mpr ⟨List.mem_of_getElem? (i := 24) (by decide +kernel), by decide +kernel⟩
theorem co_yX4_push : Cond.code yX4_push cX4_push 3 none ∈ tb := List.mem_filter.mpr ⟨List.mem_of_getElem? (i := 741) (by decide +kernel), by decide +kernel⟩
theorem ml_X4_142 : Cond.methodLink RX4 142 yX4_heardCell ∈ tb := List.mem_filter.mpr ⟨List.mem_of_getElem? (i := 742) (by decide +kernel), by decide +kernel⟩
theorem im_yX4_heardCell : Cond.instanceMethod yX4_heardCell ∈ tb := List.mem_filter.mpr ⟨List.mem_of_getElem? (i := 744) (by decide +kernel), by decide +kernel⟩
theorem se_RX4_yX4_heardCell : Cond.selects RX4 yX4_heardCell yX4_heardCell ∈ tb := List.mem_filter.mpr ⟨List.mem_of_getElem? (i := 25) (by decide +kernel), by decide +kernel⟩
theorem co_yX4_heardCell : Cond.code yX4_heardCell cX4_heardCell 3 (some .int) ∈ tb := List.mem_filter.mpr ⟨List.mem_of_getElem? (i := 745) (by decide +kernel), by decide +kernel⟩
theorem ml_L_32 : Cond.methodLink RL 32 yX3_passes ∈ tb := List.mem_filter.mpr ⟨List.mem_of_getElem? (i := 402) (by decide +kernel), by decide +kernel⟩
theorem im_yX3_passes : Cond.instanceMethod yX3_passes ∈ tb := List.mem_filter.mpr ⟨List.mem_of_getElem? (i := 403) (by decide +kernel), by decide +kernel⟩
theorem se_RX3_yX3_passes : Cond.selects RX3 yX3_passes yX3_passes ∈ tb := List.mem_filter.mpr ⟨List.mem_of_getElem? (i := 404) (by decide +kernel), by decide +kernel⟩
theorem co_yX3_passes : Cond.code yX3_passes cX3_passes 2 (some .int) ∈ tb := List.mem_filter.mpr ⟨List.mem_of_getElem? (i := 405) (by decide +kernel), by decide +kernel⟩
theorem fl_X3_88 : Cond.fieldLink RX3 88 "StaleBounds$Ledger" "time" "I" ∈ tb := List.mem_filter.mpr ⟨List.mem_of_getElem? (i := 91) (by decide +kernel), by decide +kernel⟩
theorem ml_L_35 : Cond.methodLink RL 35 yX4_passes ∈ tb := List.mem_filter.mpr ⟨List.mem_of_getElem? (i := 746) (by decide +kernel), by decide +kernel⟩
theorem im_yX4_passes : Cond.instanceMethod yX4_passes ∈ tb := List.mem_filter.mpr ⟨List.mem_of_getElem? (i := 747) (by decide +kernel), by decide +kernel⟩
theorem se_RX4_yX4_passes : Cond.selects RX4 yX4_passes yX4_passes ∈ tb := List.mem_filter.mpr ⟨List.mem_of_getElem? (i := 748) (by decide +kernel), by decide +kernel⟩
theorem co_yX4_passes : Cond.code yX4_passes cX4_passes 2 (some .int) ∈ tb := List.mem_filter.mpr ⟨List.mem_of_getElem? (i := 749) (by decide +kernel), by decide +kernel⟩
theorem ml_L_36 : Cond.methodLink RL 36 yX3_pulls ∈ tb := List.mem_filter.mpr ⟨List.mem_of_getElem? (i := 406) (by decide +kernel), by decide +kernel⟩
theorem im_yX3_pulls : Cond.instanceMethod yX3_pulls ∈ tb := List.mem_filter.mpr ⟨List.mem_of_getElem? (i := 407) (by decide +kernel), by decide +kernel⟩
theorem se_RX3_yX3_pulls : Cond.selects RX3 yX3_pulls yX3_pulls ∈ tb := List.mem_filter.mpr ⟨List.mem_of_getElem? (i := 408) (by decide +kernel), by decide +kernel⟩
theorem co_yX3_pulls : Cond.code yX3_pulls cX3_pulls 4 (some .int) ∈ tb := List.mem_filter.mpr ⟨List.mem_of_getElem? (i := 409) (by decide +kernel), by decide +kernel⟩
theorem fl_X3_95 : Cond.fieldLink RX3 95 "StaleBounds$Ledger" "knows" "[I" ∈ tb := List.mem_filter.mpr ⟨List.mem_of_getElem? (i := 101) (by decide +kernel), by decide +kernel⟩
theorem ml_X3_91 : Cond.methodLink RX3 91 yX3_arePair ∈ tb := List.mem_filter.mpr ⟨List.mem_of_getElem? (i := 410) (by decide +kernel), by decide +kernel⟩
theorem im_yX3_arePair : Cond.instanceMethod yX3_arePair ∈ tb := List.mem_filter.mpr ⟨List.mem_of_getElem? (i := 412) (by decide +kernel), by decide +kernel⟩
theorem se_RX3_yX3_arePair : Cond.selects RX3 yX3_arePair yX3_arePair ∈ tb := List.mem_filter.mpr ⟨List.mem_of_getElem? (i := 1) (by decide +kernel), by decide +kernel⟩
theorem co_yX3_arePair : Cond.code yX3_arePair cX3_arePair 3 (some .boolean) ∈ tb := List.mem_filter.mpr ⟨List.mem_of_getElem? (i := 413) (by decide +kernel), by decide +kernel⟩
theorem ml_X3_98 : Cond.methodLink RX3 98 yJ6_bitCount_0f7a4 ∈ tb := List.mem_filter.mpr ⟨List.mem_of_getElem? (i := 414) (by decide +kernel), by decide +kernel⟩
theorem sm_yJ6_bitCount_0f7a4 : Cond.static yJ6_bitCount_0f7a4 ∈ tb := List.mem_filter.mpr ⟨List.mem_of_getElem? (i := 415) (by decide +kernel), by decide +kernel⟩
theorem ini_RJ6 : Cond.initialized RJ6 ∈ tb := List.mem_filter.mpr ⟨List.mem_of_getElem? (i := 50) (by decide +kernel), by decide +kernel⟩
theorem co_yJ6_bitCount_0f7a4 : Cond.code yJ6_bitCount_0f7a4 cJ6_bitCount_0f7a4 1 (some .int) ∈ tb := List.mem_filter.mpr ⟨List.mem_of_getElem? (i := 416) (by decide +kernel), by decide +kernel⟩
theorem con_RJ6_265__1431655765_ : Cond.constant RJ6 265 (1431655765) ∈ tb := List.mem_filter.mpr ⟨List.mem_of_getElem? (i := 417) (by decide +kernel), by decide +kernel⟩
theorem con_RJ6_266__858993459_ : Cond.constant RJ6 266 (858993459) ∈ tb := List.mem_filter.mpr ⟨List.mem_of_getElem? (i := 418) (by decide +kernel), by decide +kernel⟩
theorem con_RJ6_267__252645135_ : Cond.constant RJ6 267 (252645135) ∈ tb := List.mem_filter.mpr ⟨List.mem_of_getElem? (i := 419) (by decide +kernel), by decide +kernel⟩
theorem ml_X3_104 : Cond.methodLink RX3 104 yX1_pull ∈ tb := List.mem_filter.mpr ⟨List.mem_of_getElem? (i := 420) (by decide +kernel), by decide +kernel⟩
theorem im_yX1_pull : Cond.instanceMethod yX1_pull ∈ tb := List.mem_filter.mpr ⟨List.mem_of_getElem? (i := 421) (by decide +kernel), by decide +kernel⟩
theorem se_RX1_yX1_pull : Cond.selects RX1 yX1_pull yX1_pull ∈ tb := List.mem_filter.mpr ⟨List.mem_of_getElem? (i := 422) (by decide +kernel), by decide +kernel⟩
theorem co_yX1_pull : Cond.code yX1_pull cX1_pull 4 none ∈ tb := List.mem_filter.mpr ⟨List.mem_of_getElem? (i := 423) (by decide +kernel), by decide +kernel⟩
theorem ml_X1_120 : Cond.methodLink RX1 120 Lib.Math.max.name ∈ tb := List.mem_filter.mpr ⟨List.mem_of_getElem? (i := 424) (by decide +kernel), by decide +kernel⟩
theorem sm_Lib_Math_max_name : Cond.static Lib.Math.max.name ∈ tb := List.mem_filter.mpr ⟨List.mem_of_getElem? (i := 425) (by decide +kernel), by decide +kernel⟩
theorem co_Lib_Math_max_name : Cond.code Lib.Math.max.name Lib.Math.max.code 2 (some .int) ∈ tb := List.mem_filter.mpr ⟨List.mem_of_getElem? (i := 426) (by decide +kernel), by decide +kernel⟩
theorem ml_L_39 : Cond.methodLink RL 39 yX4_pulls ∈ tb := List.mem_filter.mpr ⟨List.mem_of_getElem? (i := 750) (by decide +kernel), by decide +kernel⟩
theorem im_yX4_pulls : Cond.instanceMethod yX4_pulls ∈ tb := List.mem_filter.mpr ⟨List.mem_of_getElem? (i := 751) (by decide +kernel), by decide +kernel⟩
theorem se_RX4_yX4_pulls : Cond.selects RX4 yX4_pulls yX4_pulls ∈ tb := List.mem_filter.mpr ⟨List.mem_of_getElem? (i := 752) (by decide +kernel), by decide +kernel⟩
theorem co_yX4_pulls : Cond.code yX4_pulls cX4_pulls 4 (some .int) ∈ tb := List.mem_filter.mpr ⟨List.mem_of_getElem? (i := 753) (by decide +kernel), by decide +kernel⟩
theorem ml_X4_164 : Cond.methodLink RX4 164 yX4_arePair ∈ tb := List.mem_filter.mpr ⟨List.mem_of_getElem? (i := 754) (by decide +kernel), by decide +kernel⟩
theorem im_yX4_arePair : Cond.instanceMethod yX4_arePair ∈ tb := List.mem_filter.mpr ⟨List.mem_of_getElem? (i := 756) (by decide +kernel), by decide +kernel⟩
theorem se_RX4_yX4_arePair : Cond.selects RX4 yX4_arePair yX4_arePair ∈ tb := List.mem_filter.mpr ⟨List.mem_of_getElem? (i := 26) (by decide +kernel), by decide +kernel⟩
theorem co_yX4_arePair : Cond.code yX4_arePair cX4_arePair 3 (some .boolean) ∈ tb := List.mem_filter.mpr ⟨List.mem_of_getElem? (i := 757) (by decide +kernel), by decide +kernel⟩
theorem ml_X4_139 : Cond.methodLink RX4 139 yX4_countBits ∈ tb := List.mem_filter.mpr ⟨List.mem_of_getElem? (i := 758) (by decide +kernel), by decide +kernel⟩
theorem sm_yX4_countBits : Cond.static yX4_countBits ∈ tb := List.mem_filter.mpr ⟨List.mem_of_getElem? (i := 759) (by decide +kernel), by decide +kernel⟩
theorem co_yX4_countBits : Cond.code yX4_countBits cX4_countBits 3 (some .int) ∈ tb := List.mem_filter.mpr ⟨List.mem_of_getElem? (i := 760) (by decide +kernel), by decide +kernel⟩
theorem ml_X4_148 : Cond.methodLink RX4 148 yX4_pull ∈ tb := List.mem_filter.mpr ⟨List.mem_of_getElem? (i := 761) (by decide +kernel), by decide +kernel⟩
theorem im_yX4_pull : Cond.instanceMethod yX4_pull ∈ tb := List.mem_filter.mpr ⟨List.mem_of_getElem? (i := 763) (by decide +kernel), by decide +kernel⟩
theorem se_RX4_yX4_pull : Cond.selects RX4 yX4_pull yX4_pull ∈ tb := List.mem_filter.mpr ⟨List.mem_of_getElem? (i := 27) (by decide +kernel), by decide +kernel⟩
theorem co_yX4_pull : Cond.code yX4_pull cX4_pull 6 none ∈ tb := List.mem_filter.mpr ⟨List.mem_of_getElem? (i := 764) (by decide +kernel), by decide +kernel⟩
theorem ml_L_40 : Cond.methodLink RL 40 yX3_reads ∈ tb := List.mem_filter.mpr ⟨List.mem_of_getElem? (i := 427) (by decide +kernel), by decide +kernel⟩
theorem im_yX3_reads : Cond.instanceMethod yX3_reads ∈ tb := List.mem_filter.mpr ⟨List.mem_of_getElem? (i := 428) (by decide +kernel), by decide +kernel⟩
theorem se_RX3_yX3_reads : Cond.selects RX3 yX3_reads yX3_reads ∈ tb := List.mem_filter.mpr ⟨List.mem_of_getElem? (i := 429) (by decide +kernel), by decide +kernel⟩
theorem co_yX3_reads : Cond.code yX3_reads cX3_reads 2 (some .int) ∈ tb := List.mem_filter.mpr ⟨List.mem_of_getElem? (i := 430) (by decide +kernel), by decide +kernel⟩
theorem ml_X3_108 : Cond.methodLink RX3 108 yX1_read ∈ tb := List.mem_filter.mpr ⟨List.mem_of_getElem? (i := 431) (by decide +kernel), by decide +kernel⟩
theorem im_yX1_read : Cond.instanceMethod yX1_read ∈ tb := List.mem_filter.mpr ⟨List.mem_of_getElem? (i := 432) (by decide +kernel), by decide +kernel⟩
theorem se_RX1_yX1_read : Cond.selects RX1 yX1_read yX1_read ∈ tb := List.mem_filter.mpr ⟨List.mem_of_getElem? (i := 433) (by decide +kernel), by decide +kernel⟩
theorem co_yX1_read : Cond.code yX1_read cX1_read 4 (some .int) ∈ tb := List.mem_filter.mpr ⟨List.mem_of_getElem? (i := 434) (by decide +kernel), by decide +kernel⟩
theorem ml_X1_123 : Cond.methodLink RX1 123 yX1_pull ∈ tb := List.mem_filter.mpr ⟨List.mem_of_getElem? (i := 435) (by decide +kernel), by decide +kernel⟩
theorem ml_X1_126 : Cond.methodLink RX1 126 yX1_slow ∈ tb := List.mem_filter.mpr ⟨List.mem_of_getElem? (i := 436) (by decide +kernel), by decide +kernel⟩
theorem im_yX1_slow : Cond.instanceMethod yX1_slow ∈ tb := List.mem_filter.mpr ⟨List.mem_of_getElem? (i := 437) (by decide +kernel), by decide +kernel⟩
theorem se_RX1_yX1_slow : Cond.selects RX1 yX1_slow yX1_slow ∈ tb := List.mem_filter.mpr ⟨List.mem_of_getElem? (i := 438) (by decide +kernel), by decide +kernel⟩
theorem co_yX1_slow : Cond.code yX1_slow cX1_slow 2 (some .int) ∈ tb := List.mem_filter.mpr ⟨List.mem_of_getElem? (i := 439) (by decide +kernel), by decide +kernel⟩
theorem ml_X1_94 : Cond.methodLink RX1 94 yJ6_bitCount_0f7a4 ∈ tb := List.mem_filter.mpr ⟨List.mem_of_getElem? (i := 440) (by decide +kernel), by decide +kernel⟩
theorem ml_L_43 : Cond.methodLink RL 43 yX4_reads ∈ tb := List.mem_filter.mpr ⟨List.mem_of_getElem? (i := 765) (by decide +kernel), by decide +kernel⟩
theorem im_yX4_reads : Cond.instanceMethod yX4_reads ∈ tb := List.mem_filter.mpr ⟨List.mem_of_getElem? (i := 766) (by decide +kernel), by decide +kernel⟩
theorem se_RX4_yX4_reads : Cond.selects RX4 yX4_reads yX4_reads ∈ tb := List.mem_filter.mpr ⟨List.mem_of_getElem? (i := 767) (by decide +kernel), by decide +kernel⟩
theorem co_yX4_reads : Cond.code yX4_reads cX4_reads 2 (some .int) ∈ tb := List.mem_filter.mpr ⟨List.mem_of_getElem? (i := 768) (by decide +kernel), by decide +kernel⟩
theorem ml_X4_155 : Cond.methodLink RX4 155 yX4_readBy ∈ tb := List.mem_filter.mpr ⟨List.mem_of_getElem? (i := 769) (by decide +kernel), by decide +kernel⟩
theorem im_yX4_readBy : Cond.instanceMethod yX4_readBy ∈ tb := List.mem_filter.mpr ⟨List.mem_of_getElem? (i := 771) (by decide +kernel), by decide +kernel⟩
theorem se_RX4_yX4_readBy : Cond.selects RX4 yX4_readBy yX4_readBy ∈ tb := List.mem_filter.mpr ⟨List.mem_of_getElem? (i := 28) (by decide +kernel), by decide +kernel⟩
theorem co_yX4_readBy : Cond.code yX4_readBy cX4_readBy 4 (some .int) ∈ tb := List.mem_filter.mpr ⟨List.mem_of_getElem? (i := 772) (by decide +kernel), by decide +kernel⟩
theorem ml_X4_152 : Cond.methodLink RX4 152 yX4_slowCount ∈ tb := List.mem_filter.mpr ⟨List.mem_of_getElem? (i := 773) (by decide +kernel), by decide +kernel⟩
theorem im_yX4_slowCount : Cond.instanceMethod yX4_slowCount ∈ tb := List.mem_filter.mpr ⟨List.mem_of_getElem? (i := 775) (by decide +kernel), by decide +kernel⟩
theorem se_RX4_yX4_slowCount : Cond.selects RX4 yX4_slowCount yX4_slowCount ∈ tb := List.mem_filter.mpr ⟨List.mem_of_getElem? (i := 29) (by decide +kernel), by decide +kernel⟩
theorem co_yX4_slowCount : Cond.code yX4_slowCount cX4_slowCount 2 (some .int) ∈ tb := List.mem_filter.mpr ⟨List.mem_of_getElem? (i := 776) (by decide +kernel), by decide +kernel⟩
theorem ml_L_44 : Cond.methodLink RL 44 yX3_moves ∈ tb := List.mem_filter.mpr ⟨List.mem_of_getElem? (i := 441) (by decide +kernel), by decide +kernel⟩
theorem im_yX3_moves : Cond.instanceMethod yX3_moves ∈ tb := List.mem_filter.mpr ⟨List.mem_of_getElem? (i := 442) (by decide +kernel), by decide +kernel⟩
theorem se_RX3_yX3_moves : Cond.selects RX3 yX3_moves yX3_moves ∈ tb := List.mem_filter.mpr ⟨List.mem_of_getElem? (i := 443) (by decide +kernel), by decide +kernel⟩
theorem co_yX3_moves : Cond.code yX3_moves cX3_moves 5 (some .int) ∈ tb := List.mem_filter.mpr ⟨List.mem_of_getElem? (i := 444) (by decide +kernel), by decide +kernel⟩
theorem ml_X3_111 : Cond.methodLink RX3 111 yX1_left ∈ tb := List.mem_filter.mpr ⟨List.mem_of_getElem? (i := 445) (by decide +kernel), by decide +kernel⟩
theorem ml_X3_114 : Cond.methodLink RX3 114 yX1_move ∈ tb := List.mem_filter.mpr ⟨List.mem_of_getElem? (i := 446) (by decide +kernel), by decide +kernel⟩
theorem im_yX1_move : Cond.instanceMethod yX1_move ∈ tb := List.mem_filter.mpr ⟨List.mem_of_getElem? (i := 447) (by decide +kernel), by decide +kernel⟩
theorem se_RX1_yX1_move : Cond.selects RX1 yX1_move yX1_move ∈ tb := List.mem_filter.mpr ⟨List.mem_of_getElem? (i := 448) (by decide +kernel), by decide +kernel⟩
theorem co_yX1_move : Cond.code yX1_move cX1_move 5 (some .int) ∈ tb := List.mem_filter.mpr ⟨List.mem_of_getElem? (i := 449) (by decide +kernel), by decide +kernel⟩
theorem ml_L_48 : Cond.methodLink RL 48 yX4_moves ∈ tb := List.mem_filter.mpr ⟨List.mem_of_getElem? (i := 777) (by decide +kernel), by decide +kernel⟩
theorem im_yX4_moves : Cond.instanceMethod yX4_moves ∈ tb := List.mem_filter.mpr ⟨List.mem_of_getElem? (i := 778) (by decide +kernel), by decide +kernel⟩
theorem se_RX4_yX4_moves : Cond.selects RX4 yX4_moves yX4_moves ∈ tb := List.mem_filter.mpr ⟨List.mem_of_getElem? (i := 779) (by decide +kernel), by decide +kernel⟩
theorem co_yX4_moves : Cond.code yX4_moves cX4_moves 5 (some .int) ∈ tb := List.mem_filter.mpr ⟨List.mem_of_getElem? (i := 780) (by decide +kernel), by decide +kernel⟩
theorem ml_L_49 : Cond.methodLink RL 49 yX3_evens ∈ tb := List.mem_filter.mpr ⟨List.mem_of_getElem? (i := 450) (by decide +kernel), by decide +kernel⟩
theorem im_yX3_evens : Cond.instanceMethod yX3_evens ∈ tb := List.mem_filter.mpr ⟨List.mem_of_getElem? (i := 451) (by decide +kernel), by decide +kernel⟩
theorem se_RX3_yX3_evens : Cond.selects RX3 yX3_evens yX3_evens ∈ tb := List.mem_filter.mpr ⟨List.mem_of_getElem? (i := 452) (by decide +kernel), by decide +kernel⟩
theorem co_yX3_evens : Cond.code yX3_evens cX3_evens 2 (some .int) ∈ tb := List.mem_filter.mpr ⟨List.mem_of_getElem? (i := 453) (by decide +kernel), by decide +kernel⟩
theorem ml_X3_118 : Cond.methodLink RX3 118 yX1_even ∈ tb := List.mem_filter.mpr ⟨List.mem_of_getElem? (i := 454) (by decide +kernel), by decide +kernel⟩
theorem im_yX1_even : Cond.instanceMethod yX1_even ∈ tb := List.mem_filter.mpr ⟨List.mem_of_getElem? (i := 455) (by decide +kernel), by decide +kernel⟩
theorem se_RX1_yX1_even : Cond.selects RX1 yX1_even yX1_even ∈ tb := List.mem_filter.mpr ⟨List.mem_of_getElem? (i := 456) (by decide +kernel), by decide +kernel⟩
theorem co_yX1_even : Cond.code yX1_even cX1_even 4 (some .int) ∈ tb := List.mem_filter.mpr ⟨List.mem_of_getElem? (i := 457) (by decide +kernel), by decide +kernel⟩
theorem ml_L_52 : Cond.methodLink RL 52 yX4_evens ∈ tb := List.mem_filter.mpr ⟨List.mem_of_getElem? (i := 781) (by decide +kernel), by decide +kernel⟩
theorem im_yX4_evens : Cond.instanceMethod yX4_evens ∈ tb := List.mem_filter.mpr ⟨List.mem_of_getElem? (i := 782) (by decide +kernel), by decide +kernel⟩
theorem se_RX4_yX4_evens : Cond.selects RX4 yX4_evens yX4_evens ∈ tb := List.mem_filter.mpr ⟨List.mem_of_getElem? (i := 783) (by decide +kernel), by decide +kernel⟩
theorem co_yX4_evens : Cond.code yX4_evens cX4_evens 6 (some .int) ∈ tb := List.mem_filter.mpr ⟨List.mem_of_getElem? (i := 784) (by decide +kernel), by decide +kernel⟩
theorem ml_L_53 : Cond.methodLink RL 53 yX3_bounds ∈ tb := List.mem_filter.mpr ⟨List.mem_of_getElem? (i := 458) (by decide +kernel), by decide +kernel⟩
theorem im_yX3_bounds : Cond.instanceMethod yX3_bounds ∈ tb := List.mem_filter.mpr ⟨List.mem_of_getElem? (i := 459) (by decide +kernel), by decide +kernel⟩
theorem se_RX3_yX3_bounds : Cond.selects RX3 yX3_bounds yX3_bounds ∈ tb := List.mem_filter.mpr ⟨List.mem_of_getElem? (i := 460) (by decide +kernel), by decide +kernel⟩
theorem co_yX3_bounds : Cond.code yX3_bounds cX3_bounds 5 (some .int) ∈ tb := List.mem_filter.mpr ⟨List.mem_of_getElem? (i := 461) (by decide +kernel), by decide +kernel⟩
theorem ml_X3_121 : Cond.methodLink RX3 121 yX1_isBound ∈ tb := List.mem_filter.mpr ⟨List.mem_of_getElem? (i := 462) (by decide +kernel), by decide +kernel⟩
theorem im_yX1_isBound : Cond.instanceMethod yX1_isBound ∈ tb := List.mem_filter.mpr ⟨List.mem_of_getElem? (i := 463) (by decide +kernel), by decide +kernel⟩
theorem se_RX1_yX1_isBound : Cond.selects RX1 yX1_isBound yX1_isBound ∈ tb := List.mem_filter.mpr ⟨List.mem_of_getElem? (i := 464) (by decide +kernel), by decide +kernel⟩
theorem co_yX1_isBound : Cond.code yX1_isBound cX1_isBound 5 (some .boolean) ∈ tb := List.mem_filter.mpr ⟨List.mem_of_getElem? (i := 465) (by decide +kernel), by decide +kernel⟩
theorem ml_X3_125 : Cond.methodLink RX3 125 yX1_bindAnew ∈ tb := List.mem_filter.mpr ⟨List.mem_of_getElem? (i := 466) (by decide +kernel), by decide +kernel⟩
theorem im_yX1_bindAnew : Cond.instanceMethod yX1_bindAnew ∈ tb := List.mem_filter.mpr ⟨List.mem_of_getElem? (i := 467) (by decide +kernel), by decide +kernel⟩
theorem se_RX1_yX1_bindAnew : Cond.selects RX1 yX1_bindAnew yX1_bindAnew ∈ tb := List.mem_filter.mpr ⟨List.mem_of_getElem? (i := 468) (by decide +kernel), by decide +kernel⟩
theorem co_yX1_bindAnew : Cond.code yX1_bindAnew cX1_bindAnew 8 (some .int) ∈ tb := List.mem_filter.mpr ⟨List.mem_of_getElem? (i := 469) (by decide +kernel), by decide +kernel⟩
theorem ml_X1_129 : Cond.methodLink RX1 129 yX1_setBounds ∈ tb := List.mem_filter.mpr ⟨List.mem_of_getElem? (i := 470) (by decide +kernel), by decide +kernel⟩
theorem ml_L_56 : Cond.methodLink RL 56 yX4_bounds ∈ tb := List.mem_filter.mpr ⟨List.mem_of_getElem? (i := 785) (by decide +kernel), by decide +kernel⟩
theorem im_yX4_bounds : Cond.instanceMethod yX4_bounds ∈ tb := List.mem_filter.mpr ⟨List.mem_of_getElem? (i := 786) (by decide +kernel), by decide +kernel⟩
theorem se_RX4_yX4_bounds : Cond.selects RX4 yX4_bounds yX4_bounds ∈ tb := List.mem_filter.mpr ⟨List.mem_of_getElem? (i := 787) (by decide +kernel), by decide +kernel⟩
theorem co_yX4_bounds : Cond.code yX4_bounds cX4_bounds 9 (some .int) ∈ tb := List.mem_filter.mpr ⟨List.mem_of_getElem? (i := 788) (by decide +kernel), by decide +kernel⟩
theorem ml_L_57 : Cond.methodLink RL 57 yX3_undo ∈ tb := List.mem_filter.mpr ⟨List.mem_of_getElem? (i := 471) (by decide +kernel), by decide +kernel⟩
theorem im_yX3_undo : Cond.instanceMethod yX3_undo ∈ tb := List.mem_filter.mpr ⟨List.mem_of_getElem? (i := 472) (by decide +kernel), by decide +kernel⟩
theorem se_RX3_yX3_undo : Cond.selects RX3 yX3_undo yX3_undo ∈ tb := List.mem_filter.mpr ⟨List.mem_of_getElem? (i := 473) (by decide +kernel), by decide +kernel⟩
theorem co_yX3_undo : Cond.code yX3_undo cX3_undo 1 (some .int) ∈ tb := List.mem_filter.mpr ⟨List.mem_of_getElem? (i := 474) (by decide +kernel), by decide +kernel⟩
theorem fl_X3_128 : Cond.fieldLink RX3 128 "StaleBounds$History" "known" "I" ∈ tb := List.mem_filter.mpr ⟨List.mem_of_getElem? (i := 154) (by decide +kernel), by decide +kernel⟩
theorem ml_X3_131 : Cond.methodLink RX3 131 yX0_restore ∈ tb := List.mem_filter.mpr ⟨List.mem_of_getElem? (i := 475) (by decide +kernel), by decide +kernel⟩
theorem im_yX0_restore : Cond.instanceMethod yX0_restore ∈ tb := List.mem_filter.mpr ⟨List.mem_of_getElem? (i := 476) (by decide +kernel), by decide +kernel⟩
theorem se_RX0_yX0_restore : Cond.selects RX0 yX0_restore yX0_restore ∈ tb := List.mem_filter.mpr ⟨List.mem_of_getElem? (i := 477) (by decide +kernel), by decide +kernel⟩
theorem co_yX0_restore : Cond.code yX0_restore cX0_restore 2 none ∈ tb := List.mem_filter.mpr ⟨List.mem_of_getElem? (i := 478) (by decide +kernel), by decide +kernel⟩
theorem ml_L_60 : Cond.methodLink RL 60 yX4_undo ∈ tb := List.mem_filter.mpr ⟨List.mem_of_getElem? (i := 789) (by decide +kernel), by decide +kernel⟩
theorem im_yX4_undo : Cond.instanceMethod yX4_undo ∈ tb := List.mem_filter.mpr ⟨List.mem_of_getElem? (i := 790) (by decide +kernel), by decide +kernel⟩
theorem se_RX4_yX4_undo : Cond.selects RX4 yX4_undo yX4_undo ∈ tb := List.mem_filter.mpr ⟨List.mem_of_getElem? (i := 791) (by decide +kernel), by decide +kernel⟩
theorem co_yX4_undo : Cond.code yX4_undo cX4_undo 1 (some .int) ∈ tb := List.mem_filter.mpr ⟨List.mem_of_getElem? (i := 792) (by decide +kernel), by decide +kernel⟩
theorem ml_L_61 : Cond.methodLink RL 61 yX3_copy ∈ tb := List.mem_filter.mpr ⟨List.mem_of_getElem? (i := 479) (by decide +kernel), by decide +kernel⟩
theorem im_yX3_copy : Cond.instanceMethod yX3_copy ∈ tb := List.mem_filter.mpr ⟨List.mem_of_getElem? (i := 480) (by decide +kernel), by decide +kernel⟩
theorem se_RX3_yX3_copy : Cond.selects RX3 yX3_copy yX3_copy ∈ tb := List.mem_filter.mpr ⟨List.mem_of_getElem? (i := 481) (by decide +kernel), by decide +kernel⟩
theorem co_yX3_copy : Cond.code yX3_copy cX3_copy 3 (some .int) ∈ tb := List.mem_filter.mpr ⟨List.mem_of_getElem? (i := 482) (by decide +kernel), by decide +kernel⟩
theorem fl_X3_134 : Cond.fieldLink RX3 134 "StaleBounds$Ledger" "number" "[I" ∈ tb := List.mem_filter.mpr ⟨List.mem_of_getElem? (i := 95) (by decide +kernel), by decide +kernel⟩
theorem fl_X3_137 : Cond.fieldLink RX3 137 "StaleBounds$Ledger" "order" "[I" ∈ tb := List.mem_filter.mpr ⟨List.mem_of_getElem? (i := 97) (by decide +kernel), by decide +kernel⟩
theorem fl_X3_140 : Cond.fieldLink RX3 140 "StaleBounds$Ledger" "age" "[I" ∈ tb := List.mem_filter.mpr ⟨List.mem_of_getElem? (i := 99) (by decide +kernel), by decide +kernel⟩
theorem fl_X3_143 : Cond.fieldLink RX3 143 "StaleBounds$Ledger" "fast" "[I" ∈ tb := List.mem_filter.mpr ⟨List.mem_of_getElem? (i := 103) (by decide +kernel), by decide +kernel⟩
theorem ml_X3_146 : Cond.methodLink RX3 146 yX3_answerOf ∈ tb := List.mem_filter.mpr ⟨List.mem_of_getElem? (i := 483) (by decide +kernel), by decide +kernel⟩
theorem im_yX3_answerOf : Cond.instanceMethod yX3_answerOf ∈ tb := List.mem_filter.mpr ⟨List.mem_of_getElem? (i := 485) (by decide +kernel), by decide +kernel⟩
theorem se_RX3_yX3_answerOf : Cond.selects RX3 yX3_answerOf yX3_answerOf ∈ tb := List.mem_filter.mpr ⟨List.mem_of_getElem? (i := 2) (by decide +kernel), by decide +kernel⟩
theorem co_yX3_answerOf : Cond.code yX3_answerOf cX3_answerOf 3 (some .int) ∈ tb := List.mem_filter.mpr ⟨List.mem_of_getElem? (i := 486) (by decide +kernel), by decide +kernel⟩
theorem ml_X3_204 : Cond.methodLink RX3 204 yX1_sum ∈ tb := List.mem_filter.mpr ⟨List.mem_of_getElem? (i := 487) (by decide +kernel), by decide +kernel⟩
theorem im_yX1_sum : Cond.instanceMethod yX1_sum ∈ tb := List.mem_filter.mpr ⟨List.mem_of_getElem? (i := 488) (by decide +kernel), by decide +kernel⟩
theorem se_RX1_yX1_sum : Cond.selects RX1 yX1_sum yX1_sum ∈ tb := List.mem_filter.mpr ⟨List.mem_of_getElem? (i := 489) (by decide +kernel), by decide +kernel⟩
theorem co_yX1_sum : Cond.code yX1_sum cX1_sum 2 (some .int) ∈ tb := List.mem_filter.mpr ⟨List.mem_of_getElem? (i := 490) (by decide +kernel), by decide +kernel⟩
theorem ml_X3_207 : Cond.methodLink RX3 207 yX1_slow ∈ tb := List.mem_filter.mpr ⟨List.mem_of_getElem? (i := 491) (by decide +kernel), by decide +kernel⟩
theorem ml_X3_149 : Cond.methodLink RX3 149 yX1_lack ∈ tb := List.mem_filter.mpr ⟨List.mem_of_getElem? (i := 492) (by decide +kernel), by decide +kernel⟩
theorem im_yX1_lack : Cond.instanceMethod yX1_lack ∈ tb := List.mem_filter.mpr ⟨List.mem_of_getElem? (i := 493) (by decide +kernel), by decide +kernel⟩
theorem se_RX1_yX1_lack : Cond.selects RX1 yX1_lack yX1_lack ∈ tb := List.mem_filter.mpr ⟨List.mem_of_getElem? (i := 494) (by decide +kernel), by decide +kernel⟩
theorem co_yX1_lack : Cond.code yX1_lack cX1_lack 2 (some .int) ∈ tb := List.mem_filter.mpr ⟨List.mem_of_getElem? (i := 495) (by decide +kernel), by decide +kernel⟩
theorem ml_X1_90 : Cond.methodLink RX1 90 yX1_allWrites ∈ tb := List.mem_filter.mpr ⟨List.mem_of_getElem? (i := 496) (by decide +kernel), by decide +kernel⟩
theorem im_yX1_allWrites : Cond.instanceMethod yX1_allWrites ∈ tb := List.mem_filter.mpr ⟨List.mem_of_getElem? (i := 497) (by decide +kernel), by decide +kernel⟩
theorem se_RX1_yX1_allWrites : Cond.selects RX1 yX1_allWrites yX1_allWrites ∈ tb := List.mem_filter.mpr ⟨List.mem_of_getElem? (i := 498) (by decide +kernel), by decide +kernel⟩
theorem co_yX1_allWrites : Cond.code yX1_allWrites cX1_allWrites 1 (some .int) ∈ tb := List.mem_filter.mpr ⟨List.mem_of_getElem? (i := 499) (by decide +kernel), by decide +kernel⟩
theorem ml_X3_152 : Cond.methodLink RX3 152 yX1_spare ∈ tb := List.mem_filter.mpr ⟨List.mem_of_getElem? (i := 500) (by decide +kernel), by decide +kernel⟩
theorem im_yX1_spare : Cond.instanceMethod yX1_spare ∈ tb := List.mem_filter.mpr ⟨List.mem_of_getElem? (i := 501) (by decide +kernel), by decide +kernel⟩
theorem se_RX1_yX1_spare : Cond.selects RX1 yX1_spare yX1_spare ∈ tb := List.mem_filter.mpr ⟨List.mem_of_getElem? (i := 502) (by decide +kernel), by decide +kernel⟩
theorem co_yX1_spare : Cond.code yX1_spare cX1_spare 4 (some .int) ∈ tb := List.mem_filter.mpr ⟨List.mem_of_getElem? (i := 503) (by decide +kernel), by decide +kernel⟩
theorem ml_X1_108 : Cond.methodLink RX1 108 Lib.Math.min.name ∈ tb := List.mem_filter.mpr ⟨List.mem_of_getElem? (i := 504) (by decide +kernel), by decide +kernel⟩
theorem ml_L_64 : Cond.methodLink RL 64 yX4_copy ∈ tb := List.mem_filter.mpr ⟨List.mem_of_getElem? (i := 793) (by decide +kernel), by decide +kernel⟩
theorem im_yX4_copy : Cond.instanceMethod yX4_copy ∈ tb := List.mem_filter.mpr ⟨List.mem_of_getElem? (i := 794) (by decide +kernel), by decide +kernel⟩
theorem se_RX4_yX4_copy : Cond.selects RX4 yX4_copy yX4_copy ∈ tb := List.mem_filter.mpr ⟨List.mem_of_getElem? (i := 795) (by decide +kernel), by decide +kernel⟩
theorem co_yX4_copy : Cond.code yX4_copy cX4_copy 3 (some .int) ∈ tb := List.mem_filter.mpr ⟨List.mem_of_getElem? (i := 796) (by decide +kernel), by decide +kernel⟩
theorem ml_X4_167 : Cond.methodLink RX4 167 yX4_readCost ∈ tb := List.mem_filter.mpr ⟨List.mem_of_getElem? (i := 797) (by decide +kernel), by decide +kernel⟩
theorem im_yX4_readCost : Cond.instanceMethod yX4_readCost ∈ tb := List.mem_filter.mpr ⟨List.mem_of_getElem? (i := 799) (by decide +kernel), by decide +kernel⟩
theorem se_RX4_yX4_readCost : Cond.selects RX4 yX4_readCost yX4_readCost ∈ tb := List.mem_filter.mpr ⟨List.mem_of_getElem? (i := 30) (by decide +kernel), by decide +kernel⟩
theorem co_yX4_readCost : Cond.code yX4_readCost cX4_readCost 3 (some .int) ∈ tb := List.mem_filter.mpr ⟨List.mem_of_getElem? (i := 800) (by decide +kernel), by decide +kernel⟩
theorem ml_X4_170 : Cond.methodLink RX4 170 yX4_spare ∈ tb := List.mem_filter.mpr ⟨List.mem_of_getElem? (i := 801) (by decide +kernel), by decide +kernel⟩
theorem im_yX4_spare : Cond.instanceMethod yX4_spare ∈ tb := List.mem_filter.mpr ⟨List.mem_of_getElem? (i := 803) (by decide +kernel), by decide +kernel⟩
theorem se_RX4_yX4_spare : Cond.selects RX4 yX4_spare yX4_spare ∈ tb := List.mem_filter.mpr ⟨List.mem_of_getElem? (i := 31) (by decide +kernel), by decide +kernel⟩
theorem co_yX4_spare : Cond.code yX4_spare cX4_spare 5 (some .int) ∈ tb := List.mem_filter.mpr ⟨List.mem_of_getElem? (i := 804) (by decide +kernel), by decide +kernel⟩
theorem ml_L_65 : Cond.methodLink RL 65 yX3_pair ∈ tb := List.mem_filter.mpr ⟨List.mem_of_getElem? (i := 505) (by decide +kernel), by decide +kernel⟩
theorem im_yX3_pair : Cond.instanceMethod yX3_pair ∈ tb := List.mem_filter.mpr ⟨List.mem_of_getElem? (i := 506) (by decide +kernel), by decide +kernel⟩
theorem se_RX3_yX3_pair : Cond.selects RX3 yX3_pair yX3_pair ∈ tb := List.mem_filter.mpr ⟨List.mem_of_getElem? (i := 507) (by decide +kernel), by decide +kernel⟩
theorem co_yX3_pair : Cond.code yX3_pair cX3_pair 4 (some .int) ∈ tb := List.mem_filter.mpr ⟨List.mem_of_getElem? (i := 508) (by decide +kernel), by decide +kernel⟩
theorem fl_X3_155 : Cond.fieldLink RX3 155 "StaleBounds$Ledger" "heard" "[I" ∈ tb := List.mem_filter.mpr ⟨List.mem_of_getElem? (i := 105) (by decide +kernel), by decide +kernel⟩
theorem fl_X3_161 : Cond.fieldLink RX3 161 "StaleBounds$Ledger" "budget" "[I" ∈ tb := List.mem_filter.mpr ⟨List.mem_of_getElem? (i := 107) (by decide +kernel), by decide +kernel⟩
theorem ml_X3_158 : Cond.methodLink RX3 158 yX3_slot ∈ tb := List.mem_filter.mpr ⟨List.mem_of_getElem? (i := 509) (by decide +kernel), by decide +kernel⟩
theorem ml_X3_164 : Cond.methodLink RX3 164 yX1_owed ∈ tb := List.mem_filter.mpr ⟨List.mem_of_getElem? (i := 510) (by decide +kernel), by decide +kernel⟩
theorem ml_L_69 : Cond.methodLink RL 69 yX4_pair ∈ tb := List.mem_filter.mpr ⟨List.mem_of_getElem? (i := 805) (by decide +kernel), by decide +kernel⟩
theorem im_yX4_pair : Cond.instanceMethod yX4_pair ∈ tb := List.mem_filter.mpr ⟨List.mem_of_getElem? (i := 806) (by decide +kernel), by decide +kernel⟩
theorem se_RX4_yX4_pair : Cond.selects RX4 yX4_pair yX4_pair ∈ tb := List.mem_filter.mpr ⟨List.mem_of_getElem? (i := 807) (by decide +kernel), by decide +kernel⟩
theorem co_yX4_pair : Cond.code yX4_pair cX4_pair 4 (some .int) ∈ tb := List.mem_filter.mpr ⟨List.mem_of_getElem? (i := 808) (by decide +kernel), by decide +kernel⟩
theorem ml_L_70 : Cond.methodLink RL 70 yX3_write ∈ tb := List.mem_filter.mpr ⟨List.mem_of_getElem? (i := 511) (by decide +kernel), by decide +kernel⟩
theorem im_yX3_write : Cond.instanceMethod yX3_write ∈ tb := List.mem_filter.mpr ⟨List.mem_of_getElem? (i := 512) (by decide +kernel), by decide +kernel⟩
theorem se_RX3_yX3_write : Cond.selects RX3 yX3_write yX3_write ∈ tb := List.mem_filter.mpr ⟨List.mem_of_getElem? (i := 513) (by decide +kernel), by decide +kernel⟩
theorem co_yX3_write : Cond.code yX3_write cX3_write 3 (some .int) ∈ tb := List.mem_filter.mpr ⟨List.mem_of_getElem? (i := 514) (by decide +kernel), by decide +kernel⟩
theorem fl_X3_167 : Cond.fieldLink RX3 167 "StaleBounds$Ledger" "acceptedBy" "[I" ∈ tb := List.mem_filter.mpr ⟨List.mem_of_getElem? (i := 109) (by decide +kernel), by decide +kernel⟩
theorem fl_X3_170 : Cond.fieldLink RX3 170 "StaleBounds$Ledger" "weight" "[I" ∈ tb := List.mem_filter.mpr ⟨List.mem_of_getElem? (i := 113) (by decide +kernel), by decide +kernel⟩
theorem fl_X3_173 : Cond.fieldLink RX3 173 "StaleBounds$Ledger" "acceptedAt" "[I" ∈ tb := List.mem_filter.mpr ⟨List.mem_of_getElem? (i := 111) (by decide +kernel), by decide +kernel⟩
theorem ml_X3_176 : Cond.methodLink RX3 176 yX1_copiesWith ∈ tb := List.mem_filter.mpr ⟨List.mem_of_getElem? (i := 515) (by decide +kernel), by decide +kernel⟩
theorem im_yX1_copiesWith : Cond.instanceMethod yX1_copiesWith ∈ tb := List.mem_filter.mpr ⟨List.mem_of_getElem? (i := 516) (by decide +kernel), by decide +kernel⟩
theorem se_RX1_yX1_copiesWith : Cond.selects RX1 yX1_copiesWith yX1_copiesWith ∈ tb := List.mem_filter.mpr ⟨List.mem_of_getElem? (i := 517) (by decide +kernel), by decide +kernel⟩
theorem co_yX1_copiesWith : Cond.code yX1_copiesWith cX1_copiesWith 5 (some .int) ∈ tb := List.mem_filter.mpr ⟨List.mem_of_getElem? (i := 518) (by decide +kernel), by decide +kernel⟩
theorem ml_L_73 : Cond.methodLink RL 73 yX4_write ∈ tb := List.mem_filter.mpr ⟨List.mem_of_getElem? (i := 809) (by decide +kernel), by decide +kernel⟩
theorem im_yX4_write : Cond.instanceMethod yX4_write ∈ tb := List.mem_filter.mpr ⟨List.mem_of_getElem? (i := 810) (by decide +kernel), by decide +kernel⟩
theorem se_RX4_yX4_write : Cond.selects RX4 yX4_write yX4_write ∈ tb := List.mem_filter.mpr ⟨List.mem_of_getElem? (i := 811) (by decide +kernel), by decide +kernel⟩
theorem co_yX4_write : Cond.code yX4_write cX4_write 3 (some .int) ∈ tb := List.mem_filter.mpr ⟨List.mem_of_getElem? (i := 812) (by decide +kernel), by decide +kernel⟩
theorem ml_X4_173 : Cond.methodLink RX4 173 yX4_holders ∈ tb := List.mem_filter.mpr ⟨List.mem_of_getElem? (i := 813) (by decide +kernel), by decide +kernel⟩
theorem im_yX4_holders : Cond.instanceMethod yX4_holders ∈ tb := List.mem_filter.mpr ⟨List.mem_of_getElem? (i := 815) (by decide +kernel), by decide +kernel⟩
theorem se_RX4_yX4_holders : Cond.selects RX4 yX4_holders yX4_holders ∈ tb := List.mem_filter.mpr ⟨List.mem_of_getElem? (i := 32) (by decide +kernel), by decide +kernel⟩
theorem co_yX4_holders : Cond.code yX4_holders cX4_holders 5 (some .int) ∈ tb := List.mem_filter.mpr ⟨List.mem_of_getElem? (i := 816) (by decide +kernel), by decide +kernel⟩
theorem ml_L_74 : Cond.methodLink RL 74 yX3_costs ∈ tb := List.mem_filter.mpr ⟨List.mem_of_getElem? (i := 519) (by decide +kernel), by decide +kernel⟩
theorem im_yX3_costs : Cond.instanceMethod yX3_costs ∈ tb := List.mem_filter.mpr ⟨List.mem_of_getElem? (i := 520) (by decide +kernel), by decide +kernel⟩
theorem se_RX3_yX3_costs : Cond.selects RX3 yX3_costs yX3_costs ∈ tb := List.mem_filter.mpr ⟨List.mem_of_getElem? (i := 521) (by decide +kernel), by decide +kernel⟩
theorem co_yX3_costs : Cond.code yX3_costs cX3_costs 3 (some .int) ∈ tb := List.mem_filter.mpr ⟨List.mem_of_getElem? (i := 522) (by decide +kernel), by decide +kernel⟩
theorem ml_X3_180 : Cond.methodLink RX3 180 yX1_pushesFor ∈ tb := List.mem_filter.mpr ⟨List.mem_of_getElem? (i := 523) (by decide +kernel), by decide +kernel⟩
theorem im_yX1_pushesFor : Cond.instanceMethod yX1_pushesFor ∈ tb := List.mem_filter.mpr ⟨List.mem_of_getElem? (i := 524) (by decide +kernel), by decide +kernel⟩
theorem se_RX1_yX1_pushesFor : Cond.selects RX1 yX1_pushesFor yX1_pushesFor ∈ tb := List.mem_filter.mpr ⟨List.mem_of_getElem? (i := 525) (by decide +kernel), by decide +kernel⟩
theorem co_yX1_pushesFor : Cond.code yX1_pushesFor cX1_pushesFor 5 (some .int) ∈ tb := List.mem_filter.mpr ⟨List.mem_of_getElem? (i := 526) (by decide +kernel), by decide +kernel⟩
theorem ml_L_77 : Cond.methodLink RL 77 yX4_costs ∈ tb := List.mem_filter.mpr ⟨List.mem_of_getElem? (i := 817) (by decide +kernel), by decide +kernel⟩
theorem im_yX4_costs : Cond.instanceMethod yX4_costs ∈ tb := List.mem_filter.mpr ⟨List.mem_of_getElem? (i := 818) (by decide +kernel), by decide +kernel⟩
theorem se_RX4_yX4_costs : Cond.selects RX4 yX4_costs yX4_costs ∈ tb := List.mem_filter.mpr ⟨List.mem_of_getElem? (i := 819) (by decide +kernel), by decide +kernel⟩
theorem co_yX4_costs : Cond.code yX4_costs cX4_costs 5 (some .int) ∈ tb := List.mem_filter.mpr ⟨List.mem_of_getElem? (i := 820) (by decide +kernel), by decide +kernel⟩
theorem ml_L_78 : Cond.methodLink RL 78 yX3_sees ∈ tb := List.mem_filter.mpr ⟨List.mem_of_getElem? (i := 527) (by decide +kernel), by decide +kernel⟩
theorem im_yX3_sees : Cond.instanceMethod yX3_sees ∈ tb := List.mem_filter.mpr ⟨List.mem_of_getElem? (i := 528) (by decide +kernel), by decide +kernel⟩
theorem se_RX3_yX3_sees : Cond.selects RX3 yX3_sees yX3_sees ∈ tb := List.mem_filter.mpr ⟨List.mem_of_getElem? (i := 529) (by decide +kernel), by decide +kernel⟩
theorem co_yX3_sees : Cond.code yX3_sees cX3_sees 3 (some .int) ∈ tb := List.mem_filter.mpr ⟨List.mem_of_getElem? (i := 530) (by decide +kernel), by decide +kernel⟩
theorem ml_L_81 : Cond.methodLink RL 81 yX4_sees ∈ tb := List.mem_filter.mpr ⟨List.mem_of_getElem? (i := 821) (by decide +kernel), by decide +kernel⟩
theorem im_yX4_sees : Cond.instanceMethod yX4_sees ∈ tb := List.mem_filter.mpr ⟨List.mem_of_getElem? (i := 822) (by decide +kernel), by decide +kernel⟩
theorem se_RX4_yX4_sees : Cond.selects RX4 yX4_sees yX4_sees ∈ tb := List.mem_filter.mpr ⟨List.mem_of_getElem? (i := 823) (by decide +kernel), by decide +kernel⟩
theorem co_yX4_sees : Cond.code yX4_sees cX4_sees 3 (some .int) ∈ tb := List.mem_filter.mpr ⟨List.mem_of_getElem? (i := 824) (by decide +kernel), by decide +kernel⟩
theorem fl_X4_176 : Cond.fieldLink RX4 176 "StaleBoundsModel" "facts" "I" ∈ tb := List.mem_filter.mpr ⟨List.mem_of_getElem? (i := 610) (by decide +kernel), by decide +kernel⟩
theorem ml_L_82 : Cond.methodLink RL 82 yX3_forget ∈ tb := List.mem_filter.mpr ⟨List.mem_of_getElem? (i := 531) (by decide +kernel), by decide +kernel⟩
theorem im_yX3_forget : Cond.instanceMethod yX3_forget ∈ tb := List.mem_filter.mpr ⟨List.mem_of_getElem? (i := 532) (by decide +kernel), by decide +kernel⟩
theorem se_RX3_yX3_forget : Cond.selects RX3 yX3_forget yX3_forget ∈ tb := List.mem_filter.mpr ⟨List.mem_of_getElem? (i := 533) (by decide +kernel), by decide +kernel⟩
theorem co_yX3_forget : Cond.code yX3_forget cX3_forget 2 (some .int) ∈ tb := List.mem_filter.mpr ⟨List.mem_of_getElem? (i := 534) (by decide +kernel), by decide +kernel⟩
theorem ml_L_85 : Cond.methodLink RL 85 yX4_forget ∈ tb := List.mem_filter.mpr ⟨List.mem_of_getElem? (i := 825) (by decide +kernel), by decide +kernel⟩
theorem im_yX4_forget : Cond.instanceMethod yX4_forget ∈ tb := List.mem_filter.mpr ⟨List.mem_of_getElem? (i := 826) (by decide +kernel), by decide +kernel⟩
theorem se_RX4_yX4_forget : Cond.selects RX4 yX4_forget yX4_forget ∈ tb := List.mem_filter.mpr ⟨List.mem_of_getElem? (i := 827) (by decide +kernel), by decide +kernel⟩
theorem co_yX4_forget : Cond.code yX4_forget cX4_forget 2 (some .int) ∈ tb := List.mem_filter.mpr ⟨List.mem_of_getElem? (i := 828) (by decide +kernel), by decide +kernel⟩
theorem ml_L_86 : Cond.methodLink RL 86 yX3_which ∈ tb := List.mem_filter.mpr ⟨List.mem_of_getElem? (i := 535) (by decide +kernel), by decide +kernel⟩
theorem im_yX3_which : Cond.instanceMethod yX3_which ∈ tb := List.mem_filter.mpr ⟨List.mem_of_getElem? (i := 536) (by decide +kernel), by decide +kernel⟩
theorem se_RX3_yX3_which : Cond.selects RX3 yX3_which yX3_which ∈ tb := List.mem_filter.mpr ⟨List.mem_of_getElem? (i := 537) (by decide +kernel), by decide +kernel⟩
theorem co_yX3_which : Cond.code yX3_which cX3_which 3 (some .int) ∈ tb := List.mem_filter.mpr ⟨List.mem_of_getElem? (i := 538) (by decide +kernel), by decide +kernel⟩
theorem ml_X3_186 : Cond.methodLink RX3 186 yX3_fitsAllSeen ∈ tb := List.mem_filter.mpr ⟨List.mem_of_getElem? (i := 539) (by decide +kernel), by decide +kernel⟩
theorem im_yX3_fitsAllSeen : Cond.instanceMethod yX3_fitsAllSeen ∈ tb := List.mem_filter.mpr ⟨List.mem_of_getElem? (i := 541) (by decide +kernel), by decide +kernel⟩
theorem se_RX3_yX3_fitsAllSeen : Cond.selects RX3 yX3_fitsAllSeen yX3_fitsAllSeen ∈ tb := List.mem_filter.mpr ⟨List.mem_of_getElem? (i := 3) (by decide +kernel), by decide +kernel⟩
theorem co_yX3_fitsAllSeen : Cond.code yX3_fitsAllSeen cX3_fitsAllSeen 3 (some .boolean) ∈ tb := List.mem_filter.mpr ⟨List.mem_of_getElem? (i := 542) (by decide +kernel), by decide +kernel⟩
theorem ml_L_89 : Cond.methodLink RL 89 yX4_which ∈ tb := List.mem_filter.mpr ⟨List.mem_of_getElem? (i := 829) (by decide +kernel), by decide +kernel⟩
theorem im_yX4_which : Cond.instanceMethod yX4_which ∈ tb := List.mem_filter.mpr ⟨List.mem_of_getElem? (i := 830) (by decide +kernel), by decide +kernel⟩
theorem se_RX4_yX4_which : Cond.selects RX4 yX4_which yX4_which ∈ tb := List.mem_filter.mpr ⟨List.mem_of_getElem? (i := 831) (by decide +kernel), by decide +kernel⟩
theorem co_yX4_which : Cond.code yX4_which cX4_which 1 (some .int) ∈ tb := List.mem_filter.mpr ⟨List.mem_of_getElem? (i := 832) (by decide +kernel), by decide +kernel⟩
theorem ml_X4_182 : Cond.methodLink RX4 182 yX4_candidates ∈ tb := List.mem_filter.mpr ⟨List.mem_of_getElem? (i := 833) (by decide +kernel), by decide +kernel⟩
theorem im_yX4_candidates : Cond.instanceMethod yX4_candidates ∈ tb := List.mem_filter.mpr ⟨List.mem_of_getElem? (i := 835) (by decide +kernel), by decide +kernel⟩
theorem se_RX4_yX4_candidates : Cond.selects RX4 yX4_candidates yX4_candidates ∈ tb := List.mem_filter.mpr ⟨List.mem_of_getElem? (i := 33) (by decide +kernel), by decide +kernel⟩
theorem co_yX4_candidates : Cond.code yX4_candidates cX4_candidates 5 (some .int) ∈ tb := List.mem_filter.mpr ⟨List.mem_of_getElem? (i := 836) (by decide +kernel), by decide +kernel⟩
theorem ml_X4_179 : Cond.methodLink RX4 179 yX4_property ∈ tb := List.mem_filter.mpr ⟨List.mem_of_getElem? (i := 837) (by decide +kernel), by decide +kernel⟩
theorem im_yX4_property : Cond.instanceMethod yX4_property ∈ tb := List.mem_filter.mpr ⟨List.mem_of_getElem? (i := 839) (by decide +kernel), by decide +kernel⟩
theorem se_RX4_yX4_property : Cond.selects RX4 yX4_property yX4_property ∈ tb := List.mem_filter.mpr ⟨List.mem_of_getElem? (i := 34) (by decide +kernel), by decide +kernel⟩
theorem co_yX4_property : Cond.code yX4_property cX4_property 3 (some .int) ∈ tb := List.mem_filter.mpr ⟨List.mem_of_getElem? (i := 840) (by decide +kernel), by decide +kernel⟩
theorem ml_L_90 : Cond.methodLink RL 90 yX3_ask ∈ tb := List.mem_filter.mpr ⟨List.mem_of_getElem? (i := 543) (by decide +kernel), by decide +kernel⟩
theorem im_yX3_ask : Cond.instanceMethod yX3_ask ∈ tb := List.mem_filter.mpr ⟨List.mem_of_getElem? (i := 544) (by decide +kernel), by decide +kernel⟩
theorem se_RX3_yX3_ask : Cond.selects RX3 yX3_ask yX3_ask ∈ tb := List.mem_filter.mpr ⟨List.mem_of_getElem? (i := 545) (by decide +kernel), by decide +kernel⟩
theorem co_yX3_ask : Cond.code yX3_ask cX3_ask 6 (some .int) ∈ tb := List.mem_filter.mpr ⟨List.mem_of_getElem? (i := 546) (by decide +kernel), by decide +kernel⟩
theorem ml_X3_189 : Cond.methodLink RX3 189 yX3_which ∈ tb := List.mem_filter.mpr ⟨List.mem_of_getElem? (i := 547) (by decide +kernel), by decide +kernel⟩
theorem ml_X3_192 : Cond.methodLink RX3 192 yX3_mostAlike ∈ tb := List.mem_filter.mpr ⟨List.mem_of_getElem? (i := 548) (by decide +kernel), by decide +kernel⟩
theorem im_yX3_mostAlike : Cond.instanceMethod yX3_mostAlike ∈ tb := List.mem_filter.mpr ⟨List.mem_of_getElem? (i := 550) (by decide +kernel), by decide +kernel⟩
theorem se_RX3_yX3_mostAlike : Cond.selects RX3 yX3_mostAlike yX3_mostAlike ∈ tb := List.mem_filter.mpr ⟨List.mem_of_getElem? (i := 4) (by decide +kernel), by decide +kernel⟩
theorem co_yX3_mostAlike : Cond.code yX3_mostAlike cX3_mostAlike 5 (some .int) ∈ tb := List.mem_filter.mpr ⟨List.mem_of_getElem? (i := 551) (by decide +kernel), by decide +kernel⟩
theorem ml_X3_216 : Cond.methodLink RX3 216 Lib.Math.max.name ∈ tb := List.mem_filter.mpr ⟨List.mem_of_getElem? (i := 557) (by decide +kernel), by decide +kernel⟩
theorem ml_X3_210 : Cond.methodLink RX3 210 yX3_hasBit ∈ tb := List.mem_filter.mpr ⟨List.mem_of_getElem? (i := 552) (by decide +kernel), by decide +kernel⟩
theorem ml_X3_213 : Cond.methodLink RX3 213 yX3_alikeWith ∈ tb := List.mem_filter.mpr ⟨List.mem_of_getElem? (i := 553) (by decide +kernel), by decide +kernel⟩
theorem im_yX3_alikeWith : Cond.instanceMethod yX3_alikeWith ∈ tb := List.mem_filter.mpr ⟨List.mem_of_getElem? (i := 555) (by decide +kernel), by decide +kernel⟩
theorem se_RX3_yX3_alikeWith : Cond.selects RX3 yX3_alikeWith yX3_alikeWith ∈ tb := List.mem_filter.mpr ⟨List.mem_of_getElem? (i := 5) (by decide +kernel), by decide +kernel⟩
theorem co_yX3_alikeWith : Cond.code yX3_alikeWith cX3_alikeWith 5 (some .int) ∈ tb := List.mem_filter.mpr ⟨List.mem_of_getElem? (i := 556) (by decide +kernel), by decide +kernel⟩
theorem ml_L_93 : Cond.methodLink RL 93 yX4_ask ∈ tb := List.mem_filter.mpr ⟨List.mem_of_getElem? (i := 841) (by decide +kernel), by decide +kernel⟩
theorem im_yX4_ask : Cond.instanceMethod yX4_ask ∈ tb := List.mem_filter.mpr ⟨List.mem_of_getElem? (i := 842) (by decide +kernel), by decide +kernel⟩
theorem se_RX4_yX4_ask : Cond.selects RX4 yX4_ask yX4_ask ∈ tb := List.mem_filter.mpr ⟨List.mem_of_getElem? (i := 843) (by decide +kernel), by decide +kernel⟩
theorem co_yX4_ask : Cond.code yX4_ask cX4_ask 6 (some .int) ∈ tb := List.mem_filter.mpr ⟨List.mem_of_getElem? (i := 844) (by decide +kernel), by decide +kernel⟩
theorem ml_X4_185 : Cond.methodLink RX4 185 yX4_largestGroup ∈ tb := List.mem_filter.mpr ⟨List.mem_of_getElem? (i := 845) (by decide +kernel), by decide +kernel⟩
theorem im_yX4_largestGroup : Cond.instanceMethod yX4_largestGroup ∈ tb := List.mem_filter.mpr ⟨List.mem_of_getElem? (i := 847) (by decide +kernel), by decide +kernel⟩
theorem se_RX4_yX4_largestGroup : Cond.selects RX4 yX4_largestGroup yX4_largestGroup ∈ tb := List.mem_filter.mpr ⟨List.mem_of_getElem? (i := 35) (by decide +kernel), by decide +kernel⟩
theorem co_yX4_largestGroup : Cond.code yX4_largestGroup cX4_largestGroup 8 (some .int) ∈ tb := List.mem_filter.mpr ⟨List.mem_of_getElem? (i := 848) (by decide +kernel), by decide +kernel⟩
theorem ml_L_94 : Cond.methodLink RL 94 yX3_keep ∈ tb := List.mem_filter.mpr ⟨List.mem_of_getElem? (i := 558) (by decide +kernel), by decide +kernel⟩
theorem im_yX3_keep : Cond.instanceMethod yX3_keep ∈ tb := List.mem_filter.mpr ⟨List.mem_of_getElem? (i := 559) (by decide +kernel), by decide +kernel⟩
theorem se_RX3_yX3_keep : Cond.selects RX3 yX3_keep yX3_keep ∈ tb := List.mem_filter.mpr ⟨List.mem_of_getElem? (i := 560) (by decide +kernel), by decide +kernel⟩
theorem co_yX3_keep : Cond.code yX3_keep cX3_keep 2 (some .int) ∈ tb := List.mem_filter.mpr ⟨List.mem_of_getElem? (i := 561) (by decide +kernel), by decide +kernel⟩
theorem ml_L_97 : Cond.methodLink RL 97 yX4_keep ∈ tb := List.mem_filter.mpr ⟨List.mem_of_getElem? (i := 849) (by decide +kernel), by decide +kernel⟩
theorem im_yX4_keep : Cond.instanceMethod yX4_keep ∈ tb := List.mem_filter.mpr ⟨List.mem_of_getElem? (i := 850) (by decide +kernel), by decide +kernel⟩
theorem se_RX4_yX4_keep : Cond.selects RX4 yX4_keep yX4_keep ∈ tb := List.mem_filter.mpr ⟨List.mem_of_getElem? (i := 851) (by decide +kernel), by decide +kernel⟩
theorem co_yX4_keep : Cond.code yX4_keep cX4_keep 2 (some .int) ∈ tb := List.mem_filter.mpr ⟨List.mem_of_getElem? (i := 852) (by decide +kernel), by decide +kernel⟩
theorem ml_L_98 : Cond.methodLink RL 98 yX3_back ∈ tb := List.mem_filter.mpr ⟨List.mem_of_getElem? (i := 562) (by decide +kernel), by decide +kernel⟩
theorem im_yX3_back : Cond.instanceMethod yX3_back ∈ tb := List.mem_filter.mpr ⟨List.mem_of_getElem? (i := 563) (by decide +kernel), by decide +kernel⟩
theorem se_RX3_yX3_back : Cond.selects RX3 yX3_back yX3_back ∈ tb := List.mem_filter.mpr ⟨List.mem_of_getElem? (i := 564) (by decide +kernel), by decide +kernel⟩
theorem co_yX3_back : Cond.code yX3_back cX3_back 2 (some .int) ∈ tb := List.mem_filter.mpr ⟨List.mem_of_getElem? (i := 565) (by decide +kernel), by decide +kernel⟩
theorem ml_X3_195 : Cond.methodLink RX3 195 yX0_lose ∈ tb := List.mem_filter.mpr ⟨List.mem_of_getElem? (i := 566) (by decide +kernel), by decide +kernel⟩
theorem im_yX0_lose : Cond.instanceMethod yX0_lose ∈ tb := List.mem_filter.mpr ⟨List.mem_of_getElem? (i := 567) (by decide +kernel), by decide +kernel⟩
theorem se_RX0_yX0_lose : Cond.selects RX0 yX0_lose yX0_lose ∈ tb := List.mem_filter.mpr ⟨List.mem_of_getElem? (i := 568) (by decide +kernel), by decide +kernel⟩
theorem co_yX0_lose : Cond.code yX0_lose cX0_lose 1 none ∈ tb := List.mem_filter.mpr ⟨List.mem_of_getElem? (i := 569) (by decide +kernel), by decide +kernel⟩
theorem ml_L_101 : Cond.methodLink RL 101 yX4_back ∈ tb := List.mem_filter.mpr ⟨List.mem_of_getElem? (i := 853) (by decide +kernel), by decide +kernel⟩
theorem im_yX4_back : Cond.instanceMethod yX4_back ∈ tb := List.mem_filter.mpr ⟨List.mem_of_getElem? (i := 854) (by decide +kernel), by decide +kernel⟩
theorem se_RX4_yX4_back : Cond.selects RX4 yX4_back yX4_back ∈ tb := List.mem_filter.mpr ⟨List.mem_of_getElem? (i := 855) (by decide +kernel), by decide +kernel⟩
theorem co_yX4_back : Cond.code yX4_back cX4_back 2 (some .int) ∈ tb := List.mem_filter.mpr ⟨List.mem_of_getElem? (i := 856) (by decide +kernel), by decide +kernel⟩
theorem ml_L_102 : Cond.methodLink RL 102 yX3_count ∈ tb := List.mem_filter.mpr ⟨List.mem_of_getElem? (i := 570) (by decide +kernel), by decide +kernel⟩
theorem im_yX3_count : Cond.instanceMethod yX3_count ∈ tb := List.mem_filter.mpr ⟨List.mem_of_getElem? (i := 571) (by decide +kernel), by decide +kernel⟩
theorem se_RX3_yX3_count : Cond.selects RX3 yX3_count yX3_count ∈ tb := List.mem_filter.mpr ⟨List.mem_of_getElem? (i := 572) (by decide +kernel), by decide +kernel⟩
theorem co_yX3_count : Cond.code yX3_count cX3_count 2 (some .int) ∈ tb := List.mem_filter.mpr ⟨List.mem_of_getElem? (i := 573) (by decide +kernel), by decide +kernel⟩
theorem ml_X3_198 : Cond.methodLink RX3 198 yX1_allWrites ∈ tb := List.mem_filter.mpr ⟨List.mem_of_getElem? (i := 574) (by decide +kernel), by decide +kernel⟩
theorem ml_X3_201 : Cond.methodLink RX3 201 yX1_weightOf ∈ tb := List.mem_filter.mpr ⟨List.mem_of_getElem? (i := 575) (by decide +kernel), by decide +kernel⟩
theorem ml_L_105 : Cond.methodLink RL 105 yX4_count ∈ tb := List.mem_filter.mpr ⟨List.mem_of_getElem? (i := 857) (by decide +kernel), by decide +kernel⟩
theorem im_yX4_count : Cond.instanceMethod yX4_count ∈ tb := List.mem_filter.mpr ⟨List.mem_of_getElem? (i := 858) (by decide +kernel), by decide +kernel⟩
theorem se_RX4_yX4_count : Cond.selects RX4 yX4_count yX4_count ∈ tb := List.mem_filter.mpr ⟨List.mem_of_getElem? (i := 859) (by decide +kernel), by decide +kernel⟩
theorem co_yX4_count : Cond.code yX4_count cX4_count 2 (some .int) ∈ tb := List.mem_filter.mpr ⟨List.mem_of_getElem? (i := 860) (by decide +kernel), by decide +kernel⟩
theorem ml_X4_188 : Cond.methodLink RX4 188 yX4_fullCopies ∈ tb := List.mem_filter.mpr ⟨List.mem_of_getElem? (i := 861) (by decide +kernel), by decide +kernel⟩
theorem im_yX4_fullCopies : Cond.instanceMethod yX4_fullCopies ∈ tb := List.mem_filter.mpr ⟨List.mem_of_getElem? (i := 863) (by decide +kernel), by decide +kernel⟩
theorem se_RX4_yX4_fullCopies : Cond.selects RX4 yX4_fullCopies yX4_fullCopies ∈ tb := List.mem_filter.mpr ⟨List.mem_of_getElem? (i := 36) (by decide +kernel), by decide +kernel⟩
theorem co_yX4_fullCopies : Cond.code yX4_fullCopies cX4_fullCopies 3 (some .int) ∈ tb := List.mem_filter.mpr ⟨List.mem_of_getElem? (i := 864) (by decide +kernel), by decide +kernel⟩
theorem lay_X0_0 : u_lay RX0 TX0 0 ∈ tb := List.mem_filter.mpr ⟨List.mem_of_getElem? (i := 155) (by decide +kernel), by decide +kernel⟩
theorem lay_X0_1 : u_lay RX0 TX0 1 ∈ tb := List.mem_filter.mpr ⟨List.mem_of_getElem? (i := 157) (by decide +kernel), by decide +kernel⟩
theorem lay_X0_2 : u_lay RX0 TX0 2 ∈ tb := List.mem_filter.mpr ⟨List.mem_of_getElem? (i := 159) (by decide +kernel), by decide +kernel⟩
theorem inX0 : ∀ w ∈ wsX00, w ∈ tb := by
  intro w h
  obtain ⟨k, hk, rfl⟩ := List.mem_map.mp h
  have hk := List.mem_range.mp hk
  rcases (show k = 0 ∨ k = 1 ∨ k = 2 by omega) with rfl | rfl | rfl
  · exact lay_X0_0
  · exact lay_X0_1
  · exact lay_X0_2
theorem lay_X1_0 : u_lay RX1 TX1 0 ∈ tb := List.mem_filter.mpr ⟨List.mem_of_getElem? (i := 114) (by decide +kernel), by decide +kernel⟩
theorem lay_X1_1 : u_lay RX1 TX1 1 ∈ tb := List.mem_filter.mpr ⟨List.mem_of_getElem? (i := 116) (by decide +kernel), by decide +kernel⟩
theorem lay_X1_2 : u_lay RX1 TX1 2 ∈ tb := List.mem_filter.mpr ⟨List.mem_of_getElem? (i := 118) (by decide +kernel), by decide +kernel⟩
theorem lay_X1_3 : u_lay RX1 TX1 3 ∈ tb := List.mem_filter.mpr ⟨List.mem_of_getElem? (i := 120) (by decide +kernel), by decide +kernel⟩
theorem lay_X1_4 : u_lay RX1 TX1 4 ∈ tb := List.mem_filter.mpr ⟨List.mem_of_getElem? (i := 122) (by decide +kernel), by decide +kernel⟩
theorem lay_X1_5 : u_lay RX1 TX1 5 ∈ tb := List.mem_filter.mpr ⟨List.mem_of_getElem? (i := 124) (by decide +kernel), by decide +kernel⟩
theorem lay_X1_6 : u_lay RX1 TX1 6 ∈ tb := List.mem_filter.mpr ⟨List.mem_of_getElem? (i := 126) (by decide +kernel), by decide +kernel⟩
theorem lay_X1_7 : u_lay RX1 TX1 7 ∈ tb := List.mem_filter.mpr ⟨List.mem_of_getElem? (i := 128) (by decide +kernel), by decide +kernel⟩
theorem lay_X1_8 : u_lay RX1 TX1 8 ∈ tb := List.mem_filter.mpr ⟨List.mem_of_getElem? (i := 130) (by decide +kernel), by decide +kernel⟩
theorem lay_X1_9 : u_lay RX1 TX1 9 ∈ tb := List.mem_filter.mpr ⟨List.mem_of_getElem? (i := 132) (by decide +kernel), by decide +kernel⟩
theorem lay_X1_10 : u_lay RX1 TX1 10 ∈ tb := List.mem_filter.mpr ⟨List.mem_of_getElem? (i := 134) (by decide +kernel), by decide +kernel⟩
theorem lay_X1_11 : u_lay RX1 TX1 11 ∈ tb := List.mem_filter.mpr ⟨List.mem_of_getElem? (i := 136) (by decide +kernel), by decide +kernel⟩
theorem lay_X1_12 : u_lay RX1 TX1 12 ∈ tb := List.mem_filter.mpr ⟨List.mem_of_getElem? (i := 138) (by decide +kernel), by decide +kernel⟩
theorem inX1 : ∀ w ∈ wsX10, w ∈ tb := by
  intro w h
  obtain ⟨k, hk, rfl⟩ := List.mem_map.mp h
  have hk := List.mem_range.mp hk
  rcases (show k = 0 ∨ k = 1 ∨ k = 2 ∨ k = 3 ∨ k = 4 ∨ k = 5 ∨ k = 6 ∨ k = 7 ∨ k = 8 ∨ k = 9 ∨ k = 10 ∨ k = 11 ∨ k = 12 by omega) with rfl | rfl | rfl | rfl | rfl | rfl | rfl | rfl | rfl | rfl | rfl | rfl | rfl
  · exact lay_X1_0
  · exact lay_X1_1
  · exact lay_X1_2
  · exact lay_X1_3
  · exact lay_X1_4
  · exact lay_X1_5
  · exact lay_X1_6
  · exact lay_X1_7
  · exact lay_X1_8
  · exact lay_X1_9
  · exact lay_X1_10
  · exact lay_X1_11
  · exact lay_X1_12
theorem lay_X2_0 : u_lay RX2 TX2 0 ∈ tb := List.mem_filter.mpr ⟨List.mem_of_getElem? (i := 175) (by decide +kernel), by decide +kernel⟩
theorem lay_X2_1 : u_lay RX2 TX2 1 ∈ tb := List.mem_filter.mpr ⟨List.mem_of_getElem? (i := 177) (by decide +kernel), by decide +kernel⟩
theorem lay_X2_2 : u_lay RX2 TX2 2 ∈ tb := List.mem_filter.mpr ⟨List.mem_of_getElem? (i := 179) (by decide +kernel), by decide +kernel⟩
theorem lay_X2_3 : u_lay RX2 TX2 3 ∈ tb := List.mem_filter.mpr ⟨List.mem_of_getElem? (i := 181) (by decide +kernel), by decide +kernel⟩
theorem lay_X2_4 : u_lay RX2 TX2 4 ∈ tb := List.mem_filter.mpr ⟨List.mem_of_getElem? (i := 183) (by decide +kernel), by decide +kernel⟩
theorem lay_X2_5 : u_lay RX2 TX2 5 ∈ tb := List.mem_filter.mpr ⟨List.mem_of_getElem? (i := 185) (by decide +kernel), by decide +kernel⟩
theorem inX2 : ∀ w ∈ wsX20, w ∈ tb := by
  intro w h
  obtain ⟨k, hk, rfl⟩ := List.mem_map.mp h
  have hk := List.mem_range.mp hk
  rcases (show k = 0 ∨ k = 1 ∨ k = 2 ∨ k = 3 ∨ k = 4 ∨ k = 5 by omega) with rfl | rfl | rfl | rfl | rfl | rfl
  · exact lay_X2_0
  · exact lay_X2_1
  · exact lay_X2_2
  · exact lay_X2_3
  · exact lay_X2_4
  · exact lay_X2_5
theorem lay_X3_0 : u_lay RX3 TX3 0 ∈ tb := List.mem_filter.mpr ⟨List.mem_of_getElem? (i := 199) (by decide +kernel), by decide +kernel⟩
theorem lay_X3_1 : u_lay RX3 TX3 1 ∈ tb := List.mem_filter.mpr ⟨List.mem_of_getElem? (i := 201) (by decide +kernel), by decide +kernel⟩
theorem lay_X3_2 : u_lay RX3 TX3 2 ∈ tb := List.mem_filter.mpr ⟨List.mem_of_getElem? (i := 203) (by decide +kernel), by decide +kernel⟩
theorem lay_X3_3 : u_lay RX3 TX3 3 ∈ tb := List.mem_filter.mpr ⟨List.mem_of_getElem? (i := 205) (by decide +kernel), by decide +kernel⟩
theorem lay_X3_4 : u_lay RX3 TX3 4 ∈ tb := List.mem_filter.mpr ⟨List.mem_of_getElem? (i := 207) (by decide +kernel), by decide +kernel⟩
theorem lay_X3_5 : u_lay RX3 TX3 5 ∈ tb := List.mem_filter.mpr ⟨List.mem_of_getElem? (i := 209) (by decide +kernel), by decide +kernel⟩
theorem lay_X3_6 : u_lay RX3 TX3 6 ∈ tb := List.mem_filter.mpr ⟨List.mem_of_getElem? (i := 211) (by decide +kernel), by decide +kernel⟩
theorem lay_X3_7 : u_lay RX3 TX3 7 ∈ tb := List.mem_filter.mpr ⟨List.mem_of_getElem? (i := 213) (by decide +kernel), by decide +kernel⟩
theorem lay_X3_8 : u_lay RX3 TX3 8 ∈ tb := List.mem_filter.mpr ⟨List.mem_of_getElem? (i := 215) (by decide +kernel), by decide +kernel⟩
theorem lay_X3_9 : u_lay RX3 TX3 9 ∈ tb := List.mem_filter.mpr ⟨List.mem_of_getElem? (i := 217) (by decide +kernel), by decide +kernel⟩
theorem inX3 : ∀ w ∈ wsX30, w ∈ tb := by
  intro w h
  obtain ⟨k, hk, rfl⟩ := List.mem_map.mp h
  have hk := List.mem_range.mp hk
  rcases (show k = 0 ∨ k = 1 ∨ k = 2 ∨ k = 3 ∨ k = 4 ∨ k = 5 ∨ k = 6 ∨ k = 7 ∨ k = 8 ∨ k = 9 by omega) with rfl | rfl | rfl | rfl | rfl | rfl | rfl | rfl | rfl | rfl
  · exact lay_X3_0
  · exact lay_X3_1
  · exact lay_X3_2
  · exact lay_X3_3
  · exact lay_X3_4
  · exact lay_X3_5
  · exact lay_X3_6
  · exact lay_X3_7
  · exact lay_X3_8
  · exact lay_X3_9
theorem lay_X4_0 : u_lay RX4 TX4 0 ∈ tb := List.mem_filter.mpr ⟨List.mem_of_getElem? (i := 612) (by decide +kernel), by decide +kernel⟩
theorem lay_X4_1 : u_lay RX4 TX4 1 ∈ tb := List.mem_filter.mpr ⟨List.mem_of_getElem? (i := 614) (by decide +kernel), by decide +kernel⟩
theorem lay_X4_2 : u_lay RX4 TX4 2 ∈ tb := List.mem_filter.mpr ⟨List.mem_of_getElem? (i := 616) (by decide +kernel), by decide +kernel⟩
theorem lay_X4_3 : u_lay RX4 TX4 3 ∈ tb := List.mem_filter.mpr ⟨List.mem_of_getElem? (i := 618) (by decide +kernel), by decide +kernel⟩
theorem lay_X4_4 : u_lay RX4 TX4 4 ∈ tb := List.mem_filter.mpr ⟨List.mem_of_getElem? (i := 620) (by decide +kernel), by decide +kernel⟩
theorem lay_X4_5 : u_lay RX4 TX4 5 ∈ tb := List.mem_filter.mpr ⟨List.mem_of_getElem? (i := 622) (by decide +kernel), by decide +kernel⟩
theorem lay_X4_6 : u_lay RX4 TX4 6 ∈ tb := List.mem_filter.mpr ⟨List.mem_of_getElem? (i := 624) (by decide +kernel), by decide +kernel⟩
theorem lay_X4_7 : u_lay RX4 TX4 7 ∈ tb := List.mem_filter.mpr ⟨List.mem_of_getElem? (i := 626) (by decide +kernel), by decide +kernel⟩
theorem lay_X4_8 : u_lay RX4 TX4 8 ∈ tb := List.mem_filter.mpr ⟨List.mem_of_getElem? (i := 628) (by decide +kernel), by decide +kernel⟩
theorem lay_X4_9 : u_lay RX4 TX4 9 ∈ tb := List.mem_filter.mpr ⟨List.mem_of_getElem? (i := 630) (by decide +kernel), by decide +kernel⟩
theorem lay_X4_10 : u_lay RX4 TX4 10 ∈ tb := List.mem_filter.mpr ⟨List.mem_of_getElem? (i := 632) (by decide +kernel), by decide +kernel⟩
theorem lay_X4_11 : u_lay RX4 TX4 11 ∈ tb := List.mem_filter.mpr ⟨List.mem_of_getElem? (i := 634) (by decide +kernel), by decide +kernel⟩
theorem lay_X4_12 : u_lay RX4 TX4 12 ∈ tb := List.mem_filter.mpr ⟨List.mem_of_getElem? (i := 636) (by decide +kernel), by decide +kernel⟩
theorem lay_X4_13 : u_lay RX4 TX4 13 ∈ tb := List.mem_filter.mpr ⟨List.mem_of_getElem? (i := 638) (by decide +kernel), by decide +kernel⟩
theorem lay_X4_14 : u_lay RX4 TX4 14 ∈ tb := List.mem_filter.mpr ⟨List.mem_of_getElem? (i := 640) (by decide +kernel), by decide +kernel⟩
theorem lay_X4_15 : u_lay RX4 TX4 15 ∈ tb := List.mem_filter.mpr ⟨List.mem_of_getElem? (i := 642) (by decide +kernel), by decide +kernel⟩
theorem lay_X4_16 : u_lay RX4 TX4 16 ∈ tb := List.mem_filter.mpr ⟨List.mem_of_getElem? (i := 644) (by decide +kernel), by decide +kernel⟩
theorem inX4 : ∀ w ∈ wsX40, w ∈ tb := by
  intro w h
  obtain ⟨k, hk, rfl⟩ := List.mem_map.mp h
  have hk := List.mem_range.mp hk
  rcases (show k = 0 ∨ k = 1 ∨ k = 2 ∨ k = 3 ∨ k = 4 ∨ k = 5 ∨ k = 6 ∨ k = 7 ∨ k = 8 ∨ k = 9 ∨ k = 10 ∨ k = 11 ∨ k = 12 ∨ k = 13 ∨ k = 14 ∨ k = 15 ∨ k = 16 by omega) with rfl | rfl | rfl | rfl | rfl | rfl | rfl | rfl | rfl | rfl | rfl | rfl | rfl | rfl | rfl | rfl | rfl
  · exact lay_X4_0
  · exact lay_X4_1
  · exact lay_X4_2
  · exact lay_X4_3
  · exact lay_X4_4
  · exact lay_X4_5
  · exact lay_X4_6
  · exact lay_X4_7
  · exact lay_X4_8
  · exact lay_X4_9
  · exact lay_X4_10
  · exact lay_X4_11
  · exact lay_X4_12
  · exact lay_X4_13
  · exact lay_X4_14
  · exact lay_X4_15
  · exact lay_X4_16
end
section
/-! ===== the world as a function: Hp K r k j = what place j of cell k of region r of kind K holds (all that moves is an int) ===== -/
abbrev Id3 : Type := Nat × Nat × Nat
abbrev Rg : Type := Nat → Nat → Int32
abbrev Hp : Type := Nat → Nat → Nat → Nat → Int32
/-- class numbers and slots; array classes (0 int, 1 char, 2 boolean, 3 Ledger); addresses; live cells; the String constants' addresses, their bytes' addresses -/
abbrev Cx : Type := va_G × (Nat → ClassId) × (Nat → Nat → Nat → Nat) × List Id3 × (Nat → Nat) × (Nat → Nat)
def adr (X : Cx) (K r k : Nat) : Nat := X.2.2.1 K r k
def ids (X : Cx) : List Id3 := X.2.2.2.1
def arI (X : Cx) (c n : Nat) (g : Nat → Int32) : va_E := .inl (X.2.1 c, n, .inl g)
def arR (X : Cx) (n : Nat) (f : Nat → Option Nat) : va_E := .inl (X.2.1 3, n, .inr (.inr (.inr (.inr f))))
/-- what a cell is: kind 0 the outer object, 1 a ledger, 2 the history, 3 the text, 4 the model -/
def cel (X : Cx) (g : Nat → Int32) (K r k : Nat) : va_E := match K with
  | 0 => match k with
    | 0 => .inr (3, [.ref (adr X 1 0 0), .ref (adr X 1 1 0), .ref (adr X 2 0 0), .ref (adr X 3 0 0), .ref (adr X 0 r 1), .ref (adr X 0 r 2), .ref (adr X 0 r 3), .ref (adr X 0 r 4), .int (g 8), .ref (adr X 0 r 5)])
    | 1 => arR X 2 (fun j => some (adr X 1 (10 + j) 0))
    | 2 => arI X 2 2 g
    | 3 => arI X 0 6 g
    | 4 => arI X 0 6 g
    | _ => arI X 0 4 g
  | 1 => match k with
    | 0 => .inr (1, [.int (g 0), .int (g 1), .int (g 2), .ref (adr X 1 r 1), .ref (adr X 1 r 2), .ref (adr X 1 r 3), .ref (adr X 1 r 4), .ref (adr X 1 r 5), .ref (adr X 1 r 6), .ref (adr X 1 r 7), .ref (adr X 1 r 8), .ref (adr X 1 r 9), .ref (adr X 1 r 10)])
    | 1 => arI X 0 4 g
    | 2 => arI X 0 4 g
    | 3 => arI X 0 4 g
    | 4 => arI X 0 4 g
    | 5 => arI X 0 4 g
    | 6 => arI X 0 16 g
    | 7 => arI X 0 16 g
    | 8 => arI X 0 24 g
    | 9 => arI X 0 24 g
    | _ => arI X 0 24 g
  | 2 => match k with
    | 0 => .inr (0, [.ref (adr X 2 r 1), .int (g 1), .int (g 2)])
    | _ => arR X 8 (fun j => some (adr X 1 (2 + j) 0))
  | 3 => match k with
    | 0 => .inr (2, [.ref (adr X 3 r 1), .int (g 1), .ref (adr X 3 r 2), .ref (adr X 3 r 3), .ref (adr X 3 r 4), .int (g 5)])
    | 1 => arI X 1 80 g
    | _ => arI X 0 81 g
  | _ => match k with
    | 0 => .inr (4, [.ref (adr X 4 r 1), .ref (adr X 4 r 2), .ref (adr X 4 r 3), .ref (adr X 4 r 4), .int (g 4), .ref (adr X 4 r 5), .ref (adr X 4 r 6), .ref (adr X 4 r 7), .int (g 8), .int (g 9), .int (g 10), .int (g 11), .int (g 12), .ref (adr X 4 r 8), .ref (adr X 4 r 9), .int (g 15), .int (g 16)])
    | 1 => arI X 0 127 g
    | 2 => arI X 0 127 g
    | 3 => arI X 0 127 g
    | 4 => arI X 0 1016 g
    | 5 => arI X 0 254 g
    | 6 => arI X 2 2 g
    | 7 => arI X 0 80 g
    | 8 => arI X 0 6 g
    | _ => arI X 0 6 g
def ncel : Nat → Nat
  | 0 => 6
  | 1 => 11
  | 2 => 2
  | 3 => 5
  | _ => 10
def wl (X : Cx) (σ : Hp) : va_W := (ids X).map (fun i => (adr X i.1 i.2.1 i.2.2, cel X (σ i.1 i.2.1 i.2.2) i.1 i.2.1 i.2.2))
/-- a region all of whose cells are there -/
def Lv (X : Cx) (K r : Nat) : Prop := ∀ k, k < ncel K → (K, r, k) ∈ ids X
def Ax (X : Cx) : Nat → Prop := fun q => ∃ i ∈ ids X, q = adr X i.1 i.2.1 i.2.2
/-- the addresses are apart -/
def XD (X : Cx) : Prop := ∀ (i j : Nat) (p q : Id3), (ids X)[i]? = some p → (ids X)[j]? = some q → adr X p.1 p.2.1 p.2.2 = adr X q.1 q.2.1 q.2.2 → i = j
def setR (σ : Hp) (K r : Nat) (h : Rg) : Hp := fun K' r' => if K' = K ∧ r' = r then h else σ K' r'
def up2 (h : Rg) (k j : Nat) (x : Int32) : Rg := fun k' => if k' = k then upd (h k) j x else h k'
def up1 (h : Rg) (k : Nat) (g : Nat → Int32) : Rg := fun k' => if k' = k then g else h k'
theorem setR_self (σ : Hp) (K r : Nat) (h : Rg) : setR σ K r h K r = h := if_pos ⟨rfl, rfl⟩
theorem setR_ne {σ : Hp} {K r K' r' : Nat} {h : Rg} (hn : ¬ (K' = K ∧ r' = r)) : setR σ K r h K' r' = σ K' r' := if_neg hn
theorem setR_setR (σ : Hp) (K r : Nat) (h h' : Rg) : setR (setR σ K r h) K r h' = setR σ K r h' := by
  funext K' r'
  unfold setR
  split <;> rfl
theorem setR_id (σ : Hp) (K r : Nat) : setR σ K r (σ K r) = σ := by
  funext K' r'
  unfold setR
  split
  · rename_i h; rw [h.1, h.2]
  · rfl
theorem up2_same (h : Rg) (k j : Nat) (x : Int32) : up2 h k j x k = upd (h k) j x := if_pos rfl
theorem up2_ne {h : Rg} {k j k' : Nat} {x : Int32} (hn : ¬ k' = k) : up2 h k j x k' = h k' := if_neg hn
theorem up2_up1 (h : Rg) (k j : Nat) (x : Int32) : up2 h k j x = up1 h k (upd (h k) j x) := rfl
theorem up1_same (h : Rg) (k : Nat) (g : Nat → Int32) : up1 h k g k = g := if_pos rfl
theorem up1_ne {h : Rg} {k k' : Nat} {g : Nat → Int32} (hn : ¬ k' = k) : up1 h k g k' = h k' := if_neg hn
theorem wl_get (X : Cx) (σ : Hp) {K r k : Nat} (h : (K, r, k) ∈ ids X) : ∃ i : Nat, (ids X)[i]? = some (K, r, k) ∧ (wl X σ)[i]? = some (adr X K r k, cel X (σ K r k) K r k) := by
  obtain ⟨i, hi⟩ := List.getElem?_of_mem h
  exact ⟨i, hi, by rw [wl, List.getElem?_map, hi]; rfl⟩
/-- one cell's change, in the list: the other cells are of other names -/
theorem wl_set {X : Cx} (hX : XD X) {σ σ' : Hp} {K r k i : Nat} (hi : (ids X)[i]? = some (K, r, k)) (ho : ∀ K' r' k', ¬ (K' = K ∧ r' = r ∧ k' = k) → σ' K' r' k' = σ K' r' k') {e : va_E} (he : cel X (σ' K r k) K r k = e) : (wl X σ).set i (adr X K r k, e) = wl X σ' := by
  apply List.ext_getElem?
  intro j
  by_cases hj : j = i
  · subst hj
    have hl : j < (wl X σ).length := by
      rw [wl, List.length_map]
      exact (List.getElem?_eq_some_iff.mp hi).1
    rw [List.getElem?_set_self hl, wl, List.getElem?_map, hi, ← he]
    rfl
  · rw [List.getElem?_set_ne (fun h => hj h.symm), wl, wl, List.getElem?_map, List.getElem?_map]
    cases hq : (ids X)[j]? with
    | none => rfl
    | some q =>
      have hn : ¬ (q.1 = K ∧ q.2.1 = r ∧ q.2.2 = k) := fun h => hj (hX j i q (K, r, k) hq hi (by rw [h.1, h.2.1, h.2.2]))
      exact congrArg some (by show (adr X q.1 q.2.1 q.2.2, cel X (σ q.1 q.2.1 q.2.2) q.1 q.2.1 q.2.2) = (adr X q.1 q.2.1 q.2.2, cel X (σ' q.1 q.2.1 q.2.2) q.1 q.2.1 q.2.2); rw [ho _ _ _ hn])
theorem wl_D {X : Cx} (hX : XD X) (σ : Hp) : va_D (Ax X) (wl X σ) := by
  have at' : ∀ (i : Nat) (p : Nat × va_E), (wl X σ)[i]? = some p → ∃ q : Id3, (ids X)[i]? = some q ∧ p.1 = adr X q.1 q.2.1 q.2.2 := by
    intro i p h
    rw [wl, List.getElem?_map] at h
    cases hq : (ids X)[i]? with
    | none => rw [hq] at h; cases h
    | some q => rw [hq] at h; cases h; exact ⟨q, rfl, rfl⟩
  refine ⟨fun i j p q hp hq e => ?_, fun i p hp => ?_⟩
  · obtain ⟨a, ha, ha'⟩ := at' i p hp
    obtain ⟨b, hb, hb'⟩ := at' j q hq
    exact hX i j a b ha hb (by rw [← ha', ← hb', e])
  · obtain ⟨a, ha, ha'⟩ := at' i p hp
    exact ⟨a, List.mem_of_getElem? ha, ha'⟩
/-! ===== what is known of the tables, of the String constants ===== -/
def tyX (X : Cx) : List (ClassId × FieldType) := [(X.2.1 0, .int), (X.2.1 1, .char), (X.2.1 2, .boolean), (X.2.1 3, .object "StaleBounds$Ledger")]
def KX (X : Cx) (U : State) : Prop := XD X ∧ va_K X.1 vwCl (tyX X) U ∧ va_Nw (.methodLinkNest RX1 74 yX3_slot RX3) U ∧ va_Nw (.methodLinkNest RX1 82 yX3_hasBit RX3) U ∧ vk_R RX2 86 "copies" (X.2.2.2.2.1 0) U ∧ vk_R RX2 91 "bounds" (X.2.2.2.2.1 1) U ∧ va_Nw (.methodLinkNest RX3 28 yX2_init RX3) U ∧ (∀ i ∈ ids X, i.2.2 < ncel i.1)
def SX (X : Cx) (U : State) : Prop := va_Z "java/lang/String" "COMPACT_STRINGS" "Z" (.int 1) (Ax X) U U.heap ∧ vk_S 2 [6, 6] [[99, 111, 112, 105, 101, 115], [98, 111, 117, 110, 100, 115]] X.2.2.2.2.1 X.2.2.2.2.2 (Ax X) U U.heap ∧ va_Zq "jdk/internal/util/Preconditions" "SIOOBE_FORMATTER" "Ljava/util/function/BiFunction;" (Ax X) U U.heap
theorem KX.warm {X : Cx} {s U : State} (hW : s.WarmedH U.vm) (h : KX X s) : KX X U := ⟨h.1, va_K.moved hW.alike h.2.1, va_Nw.warmM hW h.2.2.1, va_Nw.warmM hW h.2.2.2.1, vk_R.warm hW h.2.2.2.2.1, vk_R.warm hW h.2.2.2.2.2.1, va_Nw.warmM hW h.2.2.2.2.2.2.1, h.2.2.2.2.2.2.2⟩
theorem KX.same {X : Cx} {u U : State} (hv : u.vm = U.vm) (h : KX X u) : KX X U := ⟨h.1, va_K.moved (by rw [← hv]; exact Vm.Alike.refl u.vm) h.2.1, va_Nw.same rfl hv h.2.2.1, va_Nw.same rfl hv h.2.2.2.1, vk_R.same hv.symm h.2.2.2.2.1, vk_R.same hv.symm h.2.2.2.2.2.1, va_Nw.same rfl hv h.2.2.2.2.2.2.1, h.2.2.2.2.2.2.2⟩
theorem SX.moved {X : Cx} {s U : State} {locs : List Loc} (hvm : s.vm.Alike U.vm) (hS : va_S (Ax X) s.heap U.heap locs) (h : SX X s) : SX X U := ⟨(h.1.kept hS.2.1).moved hvm, (h.2.1.kept hS.2.1).moved hvm, (h.2.2.kept hS.2.1).moved hvm⟩
/-! ===== the judgement ===== -/
def rmD (d : Nat) : Room := { frames := d, cells := 0, slots := 0, locals := 36 * d }
def QT (X : Cx) (Q : Option Value → Hp → Prop) : Array Value → State → Outcome → State → Prop := fun _ st o t => (∃ (r : Option Value) (u : Hp), o = .returned r ∧ Q r u ∧ va_P X.1 vwCl (wl X u) t.heap) ∧ va_F (Ax X) st t
def kn : Nat → List (Option Value) → List (Nat × Value)
  | _, [] => []
  | i, none :: t => kn (i + 1) t
  | i, some v :: t => (i, v) :: kn (i + 1) t
theorem kn_get : ∀ (ls : List (Option Value)) (j i : Nat) (v : Value), ls[i]? = some (some v) → (j + i, v) ∈ kn j ls
  | [], _, _, _, h => by simp at h
  | a :: t, j, 0, v, h => by
    have h : a = some v := by simpa using h
    subst h
    exact List.mem_cons_self
  | a :: t, j, i + 1, v, h => by
    have h1 := kn_get t (j + 1) i v (by simpa using h)
    have e : j + 1 + i = j + (i + 1) := by omega
    rw [e] at h1
    cases a with
    | none => exact h1
    | some w => exact List.mem_cons_of_mem _ h1
theorem kn_of : ∀ (ls : List (Option Value)) (j n : Nat) (v : Value), (n, v) ∈ kn j ls → ∃ i, n = j + i ∧ ls[i]? = some (some v)
  | [], _, _, _, h => by simp [kn] at h
  | none :: t, j, n, v, h => by
    obtain ⟨i, h1, h2⟩ := kn_of t (j + 1) n v h
    exact ⟨i + 1, by omega, by simpa using h2⟩
  | some w :: t, j, n, v, h => by
    rcases List.mem_cons.mp h with h | h
    · cases h
      exact ⟨0, by omega, by simp⟩
    · obtain ⟨i, h1, h2⟩ := kn_of t (j + 1) n v h
      exact ⟨i + 1, by omega, by simpa using h2⟩
theorem has_mono {ls : Array Slot} {n : Nat} {a b : List (Nat × Value)} (h : lv_has ls n a) (hs : ∀ q ∈ b, q ∈ a) : lv_has ls n b := ⟨h.1, h.2.1, fun q hq => h.2.2 q (hs q hq)⟩
/-- the local ahead of place i isn't a long -/
def okS (ls : List (Option Value)) : Nat → Bool
  | 0 => true
  | i + 1 => match ls[i]? with
    | some (some v) => v.category == 1
    | _ => true
theorem kn_set {ls : List (Option Value)} {i : Nat} {v : Value} (hk : okS ls i = true) : ∀ q ∈ kn 0 (ls.set i (some v)), q ∈ (i, v) :: (kn 0 ls).filter (fun q => !(q.1 == i) && !(q.1 + 1 == i && q.2.category == 2)) := by
  rintro ⟨n, w⟩ hq
  obtain ⟨j, h1, h2⟩ := kn_of _ 0 n w hq
  have h1 : n = j := by omega
  subst h1
  by_cases hj : n = i
  · subst hj
    by_cases hl : n < ls.length
    · rw [List.getElem?_set_self hl] at h2
      cases h2
      exact List.mem_cons_self
    · rw [List.getElem?_eq_none (by rw [List.length_set]; omega)] at h2
      cases h2
  · rw [List.getElem?_set_ne (fun e => hj e.symm)] at h2
    refine List.mem_cons_of_mem _ (List.mem_filter.mpr ⟨?_, ?_⟩)
    · have := kn_get ls 0 n w h2
      rwa [Nat.zero_add] at this
    · simp only [Bool.and_eq_true, Bool.not_eq_true', beq_eq_false_iff_ne, ne_eq, Bool.and_eq_false_iff]
      refine ⟨hj, ?_⟩
      by_cases he : n + 1 = i
      · right
        subst he
        simp only [okS, h2] at hk
        have hk : w.category = 1 := by simpa using hk
        show ¬ w.category = 2
        omega
      · left
        exact he
/-- what stands of a method's start, all through it -/
def Fx (X : Cx) (p : Program) (s : State) (m : MethodId) (args : Array Value) (meth : Method) (c : Code) (y : MethodName) (cc : ByteArray) (nL : Nat) (ret : Option FieldType) : Prop :=
  p.tables.exec = Jvm.exec ∧ c.code = cc ∧ c.maxLocals = nL ∧ meth.sig.returnType = ret ∧ meth.locks = false ∧ s.vm.findClass y.cls = some m.cls ∧ (∀ w ∈ tb, w.before args s = true) ∧ KX X s ∧ SX X s
/-- the method y, at pc with locals ls and stack st over the world σ, ends with Q (answer, world) -/
def T (X : Cx) (l : Launch) (y : MethodName) (cc : ByteArray) (nL : Nat) (ret : Option FieldType) (d pc : Nat) (ls : List (Option Value)) (st : List Value) (σ : Hp) (Q : Option Value → Hp → Prop) : Prop :=
  ∀ (p : Program) (e : Env) (s : State) (m : MethodId) (args : Array Value) (below : List Frame) (meth : Method) (c : Code) (H : Heap) (locs : List Loc) (lsA : Array Slot),
    Fx X p s m args meth c y cc nL ret → va_P X.1 vwCl (wl X σ) H → va_S (Ax X) s.heap H locs → lv_has lsA nL (kn 0 ls) →
    W p l e (rmD d) s m args below meth c H locs 0 0 (MQ below (QT X Q) args s 0 0 (Ax X)) (F0 m pc lsA st)
/-- the contract -/
def Con (X : Cx) (l : Launch) (y : MethodName) (cc : ByteArray) (nL : Nat) (ret : Option FieldType) (d : Nat) (As : List Value) (σ : Hp) (Q : Option Value → Hp → Prop) : Prop :=
  Met l y (Cond.code y cc nL ret :: tb) (rmD d) (va_Pc As (fun U => va_P X.1 vwCl (wl X σ) U.heap ∧ KX X U ∧ SX X U)) (QT X Q) 0 0 (Ax X)
/-- just this answer, just this world -/
def Ex (r0 : Option Value) (u0 : Hp) : Option Value → Hp → Prop := fun r u => r = r0 ∧ u = u0
theorem con_blind {X : Cx} {As : List Value} {σ : Hp} : FrameBlind (va_Pc As (fun U => va_P X.1 vwCl (wl X σ) U.heap ∧ KX X U ∧ SX X U)) := by
  intro a U g mk h
  obtain ⟨h1, h2, h3, h4⟩ := h
  exact ⟨h1, h2, h3.same rfl, SX.moved (locs := []) (Vm.Alike.refl U.vm) va_S.rf h4⟩
theorem Con_of {X : Cx} {l : Launch} {y : MethodName} {cc : ByteArray} {nL : Nat} {ret : Option FieldType} {d : Nat} {As : List Value} {σ : Hp} {Q : Option Value → Hp → Prop} (ls : List (Option Value)) (hy : plainName y.cls = true) (hent : kn 0 ls = lv_args 0 As) (hlen : (lg_sl As).length ≤ nL)
    (h : T X l y cc nL ret d 0 ls [] σ Q) : Con X l y cc nL ret d As σ Q := by
  refine Met.ofW (cc := cc) (maxL := nL) (ret := ret) hy rfl ?_
  intro p e s m args below meth c s₁ B hml hv
  obtain ⟨rfl, hP, hK, hS⟩ := hv
  have hts := atoms_spec (ws := Cond.code y cc nL ret :: tb) B.pre
  have hl := lv_entry As (n := nL) hlen
  rw [lg_entry_eq]
  exact h p e s m _ below meth c s.heap [] _ ⟨B.exec, B.bytes, hml, B.returns, B.notSynchronized, findClass_of_methodNamed B.named, fun w hw => hts w (List.mem_cons_of_mem _ hw), hK, hS⟩ hP va_S.rf (by rw [hent]; exact hl)
section ROWS
variable {X : Cx} {l : Launch} {y : MethodName} {cc : ByteArray} {nL : Nat} {ret : Option FieldType} {d pc : Nat} {ls : List (Option Value)} {st : List Value} {σ : Hp} {Q : Option Value → Hp → Prop}
/-- another function that gives the same cells -/
theorem T_re {σ' : Hp} (h : ∀ K r k, (K, r, k) ∈ ids X → k < ncel K → cel X (σ K r k) K r k = cel X (σ' K r k) K r k) (kk : T X l y cc nL ret d pc ls st σ' Q) : T X l y cc nL ret d pc ls st σ Q := by
  intro p e s m args below meth c H locs lsA hF hP hS hl
  refine kk p e s m args below meth c H locs lsA hF ?_ hS hl
  have hk := hF.2.2.2.2.2.2.2.1.2.2.2.2.2.2.2
  have e : wl X σ = wl X σ' := List.map_congr_left (fun i hi => by rw [h i.1 i.2.1 i.2.2 hi (hk i hi)])
  rw [← e]
  exact hP
theorem T_pc {pc' : Nat} (h : pc' = pc) (k : T X l y cc nL ret d pc' ls st σ Q) : T X l y cc nL ret d pc ls st σ Q := h ▸ k
theorem T_iconst {n : Int} {v : Int32} (hd : decode cc pc = .ok (.iconst n, 1)) (hv : Int32.ofInt n = v) (k : T X l y cc nL ret d (pc + 1) ls (.int v :: st) σ Q) : T X l y cc nL ret d pc ls st σ Q := by
  intro p e s m args below meth c H locs lsA hF hP hS hl
  exact lv_iconst hF.1 hF.2.1 hd hv (k p e s m args below meth c H locs lsA hF hP hS hl)
theorem T_bipush {n : Int} {v : Int32} (hd : decode cc pc = .ok (.bipush n, 2)) (hv : (Int8.ofInt n).toInt32 = v) (k : T X l y cc nL ret d (pc + 2) ls (.int v :: st) σ Q) : T X l y cc nL ret d pc ls st σ Q := by
  intro p e s m args below meth c H locs lsA hF hP hS hl
  exact lv_bipush hF.1 hF.2.1 hd hv (k p e s m args below meth c H locs lsA hF hP hS hl)
theorem T_sipush {n : Int} {v : Int32} (hd : decode cc pc = .ok (.sipush n, 3)) (hv : (Int16.ofInt n).toInt32 = v) (k : T X l y cc nL ret d (pc + 3) ls (.int v :: st) σ Q) : T X l y cc nL ret d pc ls st σ Q := by
  intro p e s m args below meth c H locs lsA hF hP hS hl
  exact lv_sipush hF.1 hF.2.1 hd hv (k p e s m args below meth c H locs lsA hF hP hS hl)
theorem T_ldc {index : Nat} {v : Int32} (hw : Cond.constant y.cls index v ∈ tb) (hd : decode cc pc = .ok (.ldc index, 2)) (k : T X l y cc nL ret d (pc + 2) ls (.int v :: st) σ Q) : T X l y cc nL ret d pc ls st σ Q := by
  intro p e s m args below meth c H locs lsA hF hP hS hl
  exact lv_ldc hF.1 hF.2.1 hF.2.2.2.2.2.1 (hF.2.2.2.2.2.2.1 _ hw) hd (k p e s m args below meth c H locs lsA hF hP hS hl)
theorem T_ldcw {index : Nat} {v : Int32} (hw : Cond.constant y.cls index v ∈ tb) (hd : decode cc pc = .ok (.ldc_w index, 3)) (k : T X l y cc nL ret d (pc + 3) ls (.int v :: st) σ Q) : T X l y cc nL ret d pc ls st σ Q := by
  intro p e s m args below meth c H locs lsA hF hP hS hl
  exact lv_ldcw hF.1 hF.2.1 hF.2.2.2.2.2.1 (hF.2.2.2.2.2.2.1 _ hw) hd (k p e s m args below meth c H locs lsA hF hP hS hl)
theorem T_ldc2 {index : Nat} {v : Int64} (hw : Cond.constantLong y.cls index v ∈ tb) (hd : decode cc pc = .ok (.ldc2_w index, 3)) (k : T X l y cc nL ret d (pc + 3) ls (.long v :: st) σ Q) : T X l y cc nL ret d pc ls st σ Q := by
  intro p e s m args below meth c H locs lsA hF hP hS hl
  exact lv_ldc2 hF.1 hF.2.1 hF.2.2.2.2.2.1 (hF.2.2.2.2.2.2.1 _ hw) hd (k p e s m args below meth c H locs lsA hF hP hS hl)
theorem T_lconst {n : Fin 2} {v : Int64} (hd : decode cc pc = .ok (.lconst n, 1)) (hv : Int64.ofNat (n : Nat) = v) (k : T X l y cc nL ret d (pc + 1) ls (.long v :: st) σ Q) : T X l y cc nL ret d pc ls st σ Q := by
  intro p e s m args below meth c H locs lsA hF hP hS hl
  exact lv_lconst hF.1 hF.2.1 hd hv (k p e s m args below meth c H locs lsA hF hP hS hl)
theorem kn_at {lsA : Array Slot} {ls : List (Option Value)} {nL i : Nat} {v : Value} (h : lv_has lsA nL (kn 0 ls)) (hi : ls[i]? = some (some v)) : lsA[i]? = some (.val v) := by
  have h1 := kn_get ls 0 i v hi
  rw [Nat.zero_add] at h1
  exact h.2.2 _ h1
theorem T_iload_n {q : Fin 4} {i : Nat} {x : Int32} (hd : decode cc pc = .ok (.iload_n q, 1)) (hi : (q : Nat) = i) (hx : ls[i]? = some (some (.int x))) (k : T X l y cc nL ret d (pc + 1) ls (.int x :: st) σ Q) : T X l y cc nL ret d pc ls st σ Q := by
  intro p e s m args below meth c H locs lsA hF hP hS hl
  exact lv_iload_n hF.1 hF.2.1 hd hi (kn_at hl hx) (k p e s m args below meth c H locs lsA hF hP hS hl)
theorem T_iload {i : Nat} {x : Int32} (hd : decode cc pc = .ok (.iload i, 2)) (hx : ls[i]? = some (some (.int x))) (k : T X l y cc nL ret d (pc + 2) ls (.int x :: st) σ Q) : T X l y cc nL ret d pc ls st σ Q := by
  intro p e s m args below meth c H locs lsA hF hP hS hl
  exact lv_iload hF.1 hF.2.1 hd (kn_at hl hx) (k p e s m args below meth c H locs lsA hF hP hS hl)
theorem T_aload_n {q : Fin 4} {i : Nat} {x : Nat} (hd : decode cc pc = .ok (.aload_n q, 1)) (hi : (q : Nat) = i) (hx : ls[i]? = some (some (.ref x))) (k : T X l y cc nL ret d (pc + 1) ls (.ref x :: st) σ Q) : T X l y cc nL ret d pc ls st σ Q := by
  intro p e s m args below meth c H locs lsA hF hP hS hl
  exact lv_aload_n hF.1 hF.2.1 hd hi (kn_at hl hx) (k p e s m args below meth c H locs lsA hF hP hS hl)
theorem T_aload {i : Nat} {x : Nat} (hd : decode cc pc = .ok (.aload i, 2)) (hx : ls[i]? = some (some (.ref x))) (k : T X l y cc nL ret d (pc + 2) ls (.ref x :: st) σ Q) : T X l y cc nL ret d pc ls st σ Q := by
  intro p e s m args below meth c H locs lsA hF hP hS hl
  exact lv_aload hF.1 hF.2.1 hd (kn_at hl hx) (k p e s m args below meth c H locs lsA hF hP hS hl)
theorem T_lload_n {q : Fin 4} {i : Nat} {x : Int64} (hd : decode cc pc = .ok (.lload_n q, 1)) (hi : (q : Nat) = i) (hx : ls[i]? = some (some (.long x))) (k : T X l y cc nL ret d (pc + 1) ls (.long x :: st) σ Q) : T X l y cc nL ret d pc ls st σ Q := by
  intro p e s m args below meth c H locs lsA hF hP hS hl
  exact lv_lload_n hF.1 hF.2.1 hd hi (kn_at hl hx) (k p e s m args below meth c H locs lsA hF hP hS hl)
theorem T_istore_n {q : Fin 4} {i : Nat} {x : Int32} (hd : decode cc pc = .ok (.istore_n q, 1)) (hi : (q : Nat) = i) (hk : okS ls i = true) (hn : i < nL) (k : T X l y cc nL ret d (pc + 1) (ls.set i (some (.int x))) st σ Q) : T X l y cc nL ret d pc ls (.int x :: st) σ Q := by
  intro p e s m args below meth c H locs lsA hF hP hS hl
  exact lv_istore_n hF.1 hF.2.1 hd hi hl hn rfl (fun ls2 h2 => k p e s m args below meth c H locs ls2 hF hP hS (has_mono h2 (kn_set hk)))
theorem T_istore {i : Nat} {x : Int32} (hd : decode cc pc = .ok (.istore i, 2)) (hk : okS ls i = true) (hn : i < nL) (k : T X l y cc nL ret d (pc + 2) (ls.set i (some (.int x))) st σ Q) : T X l y cc nL ret d pc ls (.int x :: st) σ Q := by
  intro p e s m args below meth c H locs lsA hF hP hS hl
  exact lv_istore hF.1 hF.2.1 hd hl hn rfl (fun ls2 h2 => k p e s m args below meth c H locs ls2 hF hP hS (has_mono h2 (kn_set hk)))
theorem T_astore_n {q : Fin 4} {i : Nat} {x : Nat} (hd : decode cc pc = .ok (.astore_n q, 1)) (hi : (q : Nat) = i) (hk : okS ls i = true) (hn : i < nL) (k : T X l y cc nL ret d (pc + 1) (ls.set i (some (.ref x))) st σ Q) : T X l y cc nL ret d pc ls (.ref x :: st) σ Q := by
  intro p e s m args below meth c H locs lsA hF hP hS hl
  exact lv_astore_n hF.1 hF.2.1 hd hi hl hn rfl (fun ls2 h2 => k p e s m args below meth c H locs ls2 hF hP hS (has_mono h2 (kn_set hk)))
theorem T_astore {i : Nat} {x : Nat} (hd : decode cc pc = .ok (.astore i, 2)) (hk : okS ls i = true) (hn : i < nL) (k : T X l y cc nL ret d (pc + 2) (ls.set i (some (.ref x))) st σ Q) : T X l y cc nL ret d pc ls (.ref x :: st) σ Q := by
  intro p e s m args below meth c H locs lsA hF hP hS hl
  exact lv_astore hF.1 hF.2.1 hd hl hn rfl (fun ls2 h2 => k p e s m args below meth c H locs ls2 hF hP hS (has_mono h2 (kn_set hk)))
theorem T_iinc_g {i : Nat} {n : Int} {x v : Int32} (hd : decode cc pc = .ok (.iinc i n, 3)) (hx : ls[i]? = some (some (.int x))) (hv : x + Int32.ofInt n = v) (hk : okS ls i = true) (hn : i < nL) (k : T X l y cc nL ret d (pc + 3) (ls.set i (some (.int v))) st σ Q) : T X l y cc nL ret d pc ls st σ Q := by
  intro p e s m args below meth c H locs lsA hF hP hS hl
  have h1 := kn_get ls 0 i _ hx
  rw [Nat.zero_add] at h1
  obtain ⟨q, hq⟩ := List.getElem?_of_mem h1
  exact lv_iinc hF.1 hF.2.1 hd hl hq hv hn rfl (fun ls2 h2 => k p e s m args below meth c H locs ls2 hF hP hS (has_mono h2 (kn_set hk)))
theorem T_istore0 {l0 : Option Value} {t : List (Option Value)} {x : Int32} (hd : decode cc pc = .ok (.istore_n 0, 1)) (hk : okS (l0 :: t) 0 = true) (hn : 0 < nL) (k : T X l y cc nL ret d (pc + 1) (some (.int x) :: t) st σ Q) : T X l y cc nL ret d pc (l0 :: t) (.int x :: st) σ Q := T_istore_n hd rfl hk hn k
theorem T_astore0 {l0 : Option Value} {t : List (Option Value)} {x : Nat} (hd : decode cc pc = .ok (.astore_n 0, 1)) (hk : okS (l0 :: t) 0 = true) (hn : 0 < nL) (k : T X l y cc nL ret d (pc + 1) (some (.ref x) :: t) st σ Q) : T X l y cc nL ret d pc (l0 :: t) (.ref x :: st) σ Q := T_astore_n hd rfl hk hn k
theorem T_iinc0 {t : List (Option Value)} {n : Int} {x v : Int32} (hd : decode cc pc = .ok (.iinc 0 n, 3)) (hv : x + Int32.ofInt n = v) (hk : okS (some (.int x) :: t) 0 = true) (hn : 0 < nL) (k : T X l y cc nL ret d (pc + 3) (some (.int v) :: t) st σ Q) : T X l y cc nL ret d pc (some (.int x) :: t) st σ Q := T_iinc_g hd rfl hv hk hn k
theorem T_istore1 {l0 l1 : Option Value} {t : List (Option Value)} {x : Int32} (hd : decode cc pc = .ok (.istore_n 1, 1)) (hk : okS (l0 :: l1 :: t) 1 = true) (hn : 1 < nL) (k : T X l y cc nL ret d (pc + 1) (l0 :: some (.int x) :: t) st σ Q) : T X l y cc nL ret d pc (l0 :: l1 :: t) (.int x :: st) σ Q := T_istore_n hd rfl hk hn k
theorem T_astore1 {l0 l1 : Option Value} {t : List (Option Value)} {x : Nat} (hd : decode cc pc = .ok (.astore_n 1, 1)) (hk : okS (l0 :: l1 :: t) 1 = true) (hn : 1 < nL) (k : T X l y cc nL ret d (pc + 1) (l0 :: some (.ref x) :: t) st σ Q) : T X l y cc nL ret d pc (l0 :: l1 :: t) (.ref x :: st) σ Q := T_astore_n hd rfl hk hn k
theorem T_iinc1 {l0 : Option Value} {t : List (Option Value)} {n : Int} {x v : Int32} (hd : decode cc pc = .ok (.iinc 1 n, 3)) (hv : x + Int32.ofInt n = v) (hk : okS (l0 :: some (.int x) :: t) 1 = true) (hn : 1 < nL) (k : T X l y cc nL ret d (pc + 3) (l0 :: some (.int v) :: t) st σ Q) : T X l y cc nL ret d pc (l0 :: some (.int x) :: t) st σ Q := T_iinc_g hd rfl hv hk hn k
theorem T_istore2 {l0 l1 l2 : Option Value} {t : List (Option Value)} {x : Int32} (hd : decode cc pc = .ok (.istore_n 2, 1)) (hk : okS (l0 :: l1 :: l2 :: t) 2 = true) (hn : 2 < nL) (k : T X l y cc nL ret d (pc + 1) (l0 :: l1 :: some (.int x) :: t) st σ Q) : T X l y cc nL ret d pc (l0 :: l1 :: l2 :: t) (.int x :: st) σ Q := T_istore_n hd rfl hk hn k
theorem T_astore2 {l0 l1 l2 : Option Value} {t : List (Option Value)} {x : Nat} (hd : decode cc pc = .ok (.astore_n 2, 1)) (hk : okS (l0 :: l1 :: l2 :: t) 2 = true) (hn : 2 < nL) (k : T X l y cc nL ret d (pc + 1) (l0 :: l1 :: some (.ref x) :: t) st σ Q) : T X l y cc nL ret d pc (l0 :: l1 :: l2 :: t) (.ref x :: st) σ Q := T_astore_n hd rfl hk hn k
theorem T_iinc2 {l0 l1 : Option Value} {t : List (Option Value)} {n : Int} {x v : Int32} (hd : decode cc pc = .ok (.iinc 2 n, 3)) (hv : x + Int32.ofInt n = v) (hk : okS (l0 :: l1 :: some (.int x) :: t) 2 = true) (hn : 2 < nL) (k : T X l y cc nL ret d (pc + 3) (l0 :: l1 :: some (.int v) :: t) st σ Q) : T X l y cc nL ret d pc (l0 :: l1 :: some (.int x) :: t) st σ Q := T_iinc_g hd rfl hv hk hn k
theorem T_istore3 {l0 l1 l2 l3 : Option Value} {t : List (Option Value)} {x : Int32} (hd : decode cc pc = .ok (.istore_n 3, 1)) (hk : okS (l0 :: l1 :: l2 :: l3 :: t) 3 = true) (hn : 3 < nL) (k : T X l y cc nL ret d (pc + 1) (l0 :: l1 :: l2 :: some (.int x) :: t) st σ Q) : T X l y cc nL ret d pc (l0 :: l1 :: l2 :: l3 :: t) (.int x :: st) σ Q := T_istore_n hd rfl hk hn k
theorem T_astore3 {l0 l1 l2 l3 : Option Value} {t : List (Option Value)} {x : Nat} (hd : decode cc pc = .ok (.astore_n 3, 1)) (hk : okS (l0 :: l1 :: l2 :: l3 :: t) 3 = true) (hn : 3 < nL) (k : T X l y cc nL ret d (pc + 1) (l0 :: l1 :: l2 :: some (.ref x) :: t) st σ Q) : T X l y cc nL ret d pc (l0 :: l1 :: l2 :: l3 :: t) (.ref x :: st) σ Q := T_astore_n hd rfl hk hn k
theorem T_iinc3 {l0 l1 l2 : Option Value} {t : List (Option Value)} {n : Int} {x v : Int32} (hd : decode cc pc = .ok (.iinc 3 n, 3)) (hv : x + Int32.ofInt n = v) (hk : okS (l0 :: l1 :: l2 :: some (.int x) :: t) 3 = true) (hn : 3 < nL) (k : T X l y cc nL ret d (pc + 3) (l0 :: l1 :: l2 :: some (.int v) :: t) st σ Q) : T X l y cc nL ret d pc (l0 :: l1 :: l2 :: some (.int x) :: t) st σ Q := T_iinc_g hd rfl hv hk hn k
theorem T_istore4 {l0 l1 l2 l3 l4 : Option Value} {t : List (Option Value)} {x : Int32} (hd : decode cc pc = .ok (.istore 4, 2)) (hk : okS (l0 :: l1 :: l2 :: l3 :: l4 :: t) 4 = true) (hn : 4 < nL) (k : T X l y cc nL ret d (pc + 2) (l0 :: l1 :: l2 :: l3 :: some (.int x) :: t) st σ Q) : T X l y cc nL ret d pc (l0 :: l1 :: l2 :: l3 :: l4 :: t) (.int x :: st) σ Q := T_istore hd hk hn k
theorem T_astore4 {l0 l1 l2 l3 l4 : Option Value} {t : List (Option Value)} {x : Nat} (hd : decode cc pc = .ok (.astore 4, 2)) (hk : okS (l0 :: l1 :: l2 :: l3 :: l4 :: t) 4 = true) (hn : 4 < nL) (k : T X l y cc nL ret d (pc + 2) (l0 :: l1 :: l2 :: l3 :: some (.ref x) :: t) st σ Q) : T X l y cc nL ret d pc (l0 :: l1 :: l2 :: l3 :: l4 :: t) (.ref x :: st) σ Q := T_astore hd hk hn k
theorem T_iinc4 {l0 l1 l2 l3 : Option Value} {t : List (Option Value)} {n : Int} {x v : Int32} (hd : decode cc pc = .ok (.iinc 4 n, 3)) (hv : x + Int32.ofInt n = v) (hk : okS (l0 :: l1 :: l2 :: l3 :: some (.int x) :: t) 4 = true) (hn : 4 < nL) (k : T X l y cc nL ret d (pc + 3) (l0 :: l1 :: l2 :: l3 :: some (.int v) :: t) st σ Q) : T X l y cc nL ret d pc (l0 :: l1 :: l2 :: l3 :: some (.int x) :: t) st σ Q := T_iinc_g hd rfl hv hk hn k
theorem T_istore5 {l0 l1 l2 l3 l4 l5 : Option Value} {t : List (Option Value)} {x : Int32} (hd : decode cc pc = .ok (.istore 5, 2)) (hk : okS (l0 :: l1 :: l2 :: l3 :: l4 :: l5 :: t) 5 = true) (hn : 5 < nL) (k : T X l y cc nL ret d (pc + 2) (l0 :: l1 :: l2 :: l3 :: l4 :: some (.int x) :: t) st σ Q) : T X l y cc nL ret d pc (l0 :: l1 :: l2 :: l3 :: l4 :: l5 :: t) (.int x :: st) σ Q := T_istore hd hk hn k
theorem T_astore5 {l0 l1 l2 l3 l4 l5 : Option Value} {t : List (Option Value)} {x : Nat} (hd : decode cc pc = .ok (.astore 5, 2)) (hk : okS (l0 :: l1 :: l2 :: l3 :: l4 :: l5 :: t) 5 = true) (hn : 5 < nL) (k : T X l y cc nL ret d (pc + 2) (l0 :: l1 :: l2 :: l3 :: l4 :: some (.ref x) :: t) st σ Q) : T X l y cc nL ret d pc (l0 :: l1 :: l2 :: l3 :: l4 :: l5 :: t) (.ref x :: st) σ Q := T_astore hd hk hn k
theorem T_iinc5 {l0 l1 l2 l3 l4 : Option Value} {t : List (Option Value)} {n : Int} {x v : Int32} (hd : decode cc pc = .ok (.iinc 5 n, 3)) (hv : x + Int32.ofInt n = v) (hk : okS (l0 :: l1 :: l2 :: l3 :: l4 :: some (.int x) :: t) 5 = true) (hn : 5 < nL) (k : T X l y cc nL ret d (pc + 3) (l0 :: l1 :: l2 :: l3 :: l4 :: some (.int v) :: t) st σ Q) : T X l y cc nL ret d pc (l0 :: l1 :: l2 :: l3 :: l4 :: some (.int x) :: t) st σ Q := T_iinc_g hd rfl hv hk hn k
theorem T_istore6 {l0 l1 l2 l3 l4 l5 l6 : Option Value} {t : List (Option Value)} {x : Int32} (hd : decode cc pc = .ok (.istore 6, 2)) (hk : okS (l0 :: l1 :: l2 :: l3 :: l4 :: l5 :: l6 :: t) 6 = true) (hn : 6 < nL) (k : T X l y cc nL ret d (pc + 2) (l0 :: l1 :: l2 :: l3 :: l4 :: l5 :: some (.int x) :: t) st σ Q) : T X l y cc nL ret d pc (l0 :: l1 :: l2 :: l3 :: l4 :: l5 :: l6 :: t) (.int x :: st) σ Q := T_istore hd hk hn k
theorem T_astore6 {l0 l1 l2 l3 l4 l5 l6 : Option Value} {t : List (Option Value)} {x : Nat} (hd : decode cc pc = .ok (.astore 6, 2)) (hk : okS (l0 :: l1 :: l2 :: l3 :: l4 :: l5 :: l6 :: t) 6 = true) (hn : 6 < nL) (k : T X l y cc nL ret d (pc + 2) (l0 :: l1 :: l2 :: l3 :: l4 :: l5 :: some (.ref x) :: t) st σ Q) : T X l y cc nL ret d pc (l0 :: l1 :: l2 :: l3 :: l4 :: l5 :: l6 :: t) (.ref x :: st) σ Q := T_astore hd hk hn k
theorem T_iinc6 {l0 l1 l2 l3 l4 l5 : Option Value} {t : List (Option Value)} {n : Int} {x v : Int32} (hd : decode cc pc = .ok (.iinc 6 n, 3)) (hv : x + Int32.ofInt n = v) (hk : okS (l0 :: l1 :: l2 :: l3 :: l4 :: l5 :: some (.int x) :: t) 6 = true) (hn : 6 < nL) (k : T X l y cc nL ret d (pc + 3) (l0 :: l1 :: l2 :: l3 :: l4 :: l5 :: some (.int v) :: t) st σ Q) : T X l y cc nL ret d pc (l0 :: l1 :: l2 :: l3 :: l4 :: l5 :: some (.int x) :: t) st σ Q := T_iinc_g hd rfl hv hk hn k
theorem T_istore7 {l0 l1 l2 l3 l4 l5 l6 l7 : Option Value} {t : List (Option Value)} {x : Int32} (hd : decode cc pc = .ok (.istore 7, 2)) (hk : okS (l0 :: l1 :: l2 :: l3 :: l4 :: l5 :: l6 :: l7 :: t) 7 = true) (hn : 7 < nL) (k : T X l y cc nL ret d (pc + 2) (l0 :: l1 :: l2 :: l3 :: l4 :: l5 :: l6 :: some (.int x) :: t) st σ Q) : T X l y cc nL ret d pc (l0 :: l1 :: l2 :: l3 :: l4 :: l5 :: l6 :: l7 :: t) (.int x :: st) σ Q := T_istore hd hk hn k
theorem T_astore7 {l0 l1 l2 l3 l4 l5 l6 l7 : Option Value} {t : List (Option Value)} {x : Nat} (hd : decode cc pc = .ok (.astore 7, 2)) (hk : okS (l0 :: l1 :: l2 :: l3 :: l4 :: l5 :: l6 :: l7 :: t) 7 = true) (hn : 7 < nL) (k : T X l y cc nL ret d (pc + 2) (l0 :: l1 :: l2 :: l3 :: l4 :: l5 :: l6 :: some (.ref x) :: t) st σ Q) : T X l y cc nL ret d pc (l0 :: l1 :: l2 :: l3 :: l4 :: l5 :: l6 :: l7 :: t) (.ref x :: st) σ Q := T_astore hd hk hn k
theorem T_iinc7 {l0 l1 l2 l3 l4 l5 l6 : Option Value} {t : List (Option Value)} {n : Int} {x v : Int32} (hd : decode cc pc = .ok (.iinc 7 n, 3)) (hv : x + Int32.ofInt n = v) (hk : okS (l0 :: l1 :: l2 :: l3 :: l4 :: l5 :: l6 :: some (.int x) :: t) 7 = true) (hn : 7 < nL) (k : T X l y cc nL ret d (pc + 3) (l0 :: l1 :: l2 :: l3 :: l4 :: l5 :: l6 :: some (.int v) :: t) st σ Q) : T X l y cc nL ret d pc (l0 :: l1 :: l2 :: l3 :: l4 :: l5 :: l6 :: some (.int x) :: t) st σ Q := T_iinc_g hd rfl hv hk hn k
theorem T_istore8 {l0 l1 l2 l3 l4 l5 l6 l7 l8 : Option Value} {t : List (Option Value)} {x : Int32} (hd : decode cc pc = .ok (.istore 8, 2)) (hk : okS (l0 :: l1 :: l2 :: l3 :: l4 :: l5 :: l6 :: l7 :: l8 :: t) 8 = true) (hn : 8 < nL) (k : T X l y cc nL ret d (pc + 2) (l0 :: l1 :: l2 :: l3 :: l4 :: l5 :: l6 :: l7 :: some (.int x) :: t) st σ Q) : T X l y cc nL ret d pc (l0 :: l1 :: l2 :: l3 :: l4 :: l5 :: l6 :: l7 :: l8 :: t) (.int x :: st) σ Q := T_istore hd hk hn k
theorem T_astore8 {l0 l1 l2 l3 l4 l5 l6 l7 l8 : Option Value} {t : List (Option Value)} {x : Nat} (hd : decode cc pc = .ok (.astore 8, 2)) (hk : okS (l0 :: l1 :: l2 :: l3 :: l4 :: l5 :: l6 :: l7 :: l8 :: t) 8 = true) (hn : 8 < nL) (k : T X l y cc nL ret d (pc + 2) (l0 :: l1 :: l2 :: l3 :: l4 :: l5 :: l6 :: l7 :: some (.ref x) :: t) st σ Q) : T X l y cc nL ret d pc (l0 :: l1 :: l2 :: l3 :: l4 :: l5 :: l6 :: l7 :: l8 :: t) (.ref x :: st) σ Q := T_astore hd hk hn k
theorem T_iinc8 {l0 l1 l2 l3 l4 l5 l6 l7 : Option Value} {t : List (Option Value)} {n : Int} {x v : Int32} (hd : decode cc pc = .ok (.iinc 8 n, 3)) (hv : x + Int32.ofInt n = v) (hk : okS (l0 :: l1 :: l2 :: l3 :: l4 :: l5 :: l6 :: l7 :: some (.int x) :: t) 8 = true) (hn : 8 < nL) (k : T X l y cc nL ret d (pc + 3) (l0 :: l1 :: l2 :: l3 :: l4 :: l5 :: l6 :: l7 :: some (.int v) :: t) st σ Q) : T X l y cc nL ret d pc (l0 :: l1 :: l2 :: l3 :: l4 :: l5 :: l6 :: l7 :: some (.int x) :: t) st σ Q := T_iinc_g hd rfl hv hk hn k
theorem T_istore9 {l0 l1 l2 l3 l4 l5 l6 l7 l8 l9 : Option Value} {t : List (Option Value)} {x : Int32} (hd : decode cc pc = .ok (.istore 9, 2)) (hk : okS (l0 :: l1 :: l2 :: l3 :: l4 :: l5 :: l6 :: l7 :: l8 :: l9 :: t) 9 = true) (hn : 9 < nL) (k : T X l y cc nL ret d (pc + 2) (l0 :: l1 :: l2 :: l3 :: l4 :: l5 :: l6 :: l7 :: l8 :: some (.int x) :: t) st σ Q) : T X l y cc nL ret d pc (l0 :: l1 :: l2 :: l3 :: l4 :: l5 :: l6 :: l7 :: l8 :: l9 :: t) (.int x :: st) σ Q := T_istore hd hk hn k
theorem T_astore9 {l0 l1 l2 l3 l4 l5 l6 l7 l8 l9 : Option Value} {t : List (Option Value)} {x : Nat} (hd : decode cc pc = .ok (.astore 9, 2)) (hk : okS (l0 :: l1 :: l2 :: l3 :: l4 :: l5 :: l6 :: l7 :: l8 :: l9 :: t) 9 = true) (hn : 9 < nL) (k : T X l y cc nL ret d (pc + 2) (l0 :: l1 :: l2 :: l3 :: l4 :: l5 :: l6 :: l7 :: l8 :: some (.ref x) :: t) st σ Q) : T X l y cc nL ret d pc (l0 :: l1 :: l2 :: l3 :: l4 :: l5 :: l6 :: l7 :: l8 :: l9 :: t) (.ref x :: st) σ Q := T_astore hd hk hn k
theorem T_iinc9 {l0 l1 l2 l3 l4 l5 l6 l7 l8 : Option Value} {t : List (Option Value)} {n : Int} {x v : Int32} (hd : decode cc pc = .ok (.iinc 9 n, 3)) (hv : x + Int32.ofInt n = v) (hk : okS (l0 :: l1 :: l2 :: l3 :: l4 :: l5 :: l6 :: l7 :: l8 :: some (.int x) :: t) 9 = true) (hn : 9 < nL) (k : T X l y cc nL ret d (pc + 3) (l0 :: l1 :: l2 :: l3 :: l4 :: l5 :: l6 :: l7 :: l8 :: some (.int v) :: t) st σ Q) : T X l y cc nL ret d pc (l0 :: l1 :: l2 :: l3 :: l4 :: l5 :: l6 :: l7 :: l8 :: some (.int x) :: t) st σ Q := T_iinc_g hd rfl hv hk hn k
theorem T_iadd {x z : Int32} (hd : decode cc pc = .ok (.iadd, 1)) (k : T X l y cc nL ret d (pc + 1) ls (.int (x + z) :: st) σ Q) : T X l y cc nL ret d pc ls (.int z :: .int x :: st) σ Q := by
  intro p e s m args below meth c H locs lsA hF hP hS hl
  exact lv_iadd hF.1 hF.2.1 hd (k p e s m args below meth c H locs lsA hF hP hS hl)
theorem T_isub {x z : Int32} (hd : decode cc pc = .ok (.isub, 1)) (k : T X l y cc nL ret d (pc + 1) ls (.int (x - z) :: st) σ Q) : T X l y cc nL ret d pc ls (.int z :: .int x :: st) σ Q := by
  intro p e s m args below meth c H locs lsA hF hP hS hl
  exact lv_isub hF.1 hF.2.1 hd (k p e s m args below meth c H locs lsA hF hP hS hl)
theorem T_imul {x z : Int32} (hd : decode cc pc = .ok (.imul, 1)) (k : T X l y cc nL ret d (pc + 1) ls (.int (x * z) :: st) σ Q) : T X l y cc nL ret d pc ls (.int z :: .int x :: st) σ Q := by
  intro p e s m args below meth c H locs lsA hF hP hS hl
  exact lv_imul hF.1 hF.2.1 hd (k p e s m args below meth c H locs lsA hF hP hS hl)
theorem T_iand {x z : Int32} (hd : decode cc pc = .ok (.iand, 1)) (k : T X l y cc nL ret d (pc + 1) ls (.int (x &&& z) :: st) σ Q) : T X l y cc nL ret d pc ls (.int z :: .int x :: st) σ Q := by
  intro p e s m args below meth c H locs lsA hF hP hS hl
  exact lv_iand hF.1 hF.2.1 hd (k p e s m args below meth c H locs lsA hF hP hS hl)
theorem T_ior {x z : Int32} (hd : decode cc pc = .ok (.ior, 1)) (k : T X l y cc nL ret d (pc + 1) ls (.int (x ||| z) :: st) σ Q) : T X l y cc nL ret d pc ls (.int z :: .int x :: st) σ Q := by
  intro p e s m args below meth c H locs lsA hF hP hS hl
  exact lv_ior hF.1 hF.2.1 hd (k p e s m args below meth c H locs lsA hF hP hS hl)
theorem T_ixor {x z : Int32} (hd : decode cc pc = .ok (.ixor, 1)) (k : T X l y cc nL ret d (pc + 1) ls (.int (x ^^^ z) :: st) σ Q) : T X l y cc nL ret d pc ls (.int z :: .int x :: st) σ Q := by
  intro p e s m args below meth c H locs lsA hF hP hS hl
  exact lv_ixor hF.1 hF.2.1 hd (k p e s m args below meth c H locs lsA hF hP hS hl)
theorem T_ishl {x z : Int32} (hd : decode cc pc = .ok (.ishl, 1)) (k : T X l y cc nL ret d (pc + 1) ls (.int (x <<< (z &&& 31)) :: st) σ Q) : T X l y cc nL ret d pc ls (.int z :: .int x :: st) σ Q := by
  intro p e s m args below meth c H locs lsA hF hP hS hl
  exact lv_ishl hF.1 hF.2.1 hd (k p e s m args below meth c H locs lsA hF hP hS hl)
theorem T_ishr {x z : Int32} (hd : decode cc pc = .ok (.ishr, 1)) (k : T X l y cc nL ret d (pc + 1) ls (.int (x >>> (z &&& 31)) :: st) σ Q) : T X l y cc nL ret d pc ls (.int z :: .int x :: st) σ Q := by
  intro p e s m args below meth c H locs lsA hF hP hS hl
  exact lv_ishr hF.1 hF.2.1 hd (k p e s m args below meth c H locs lsA hF hP hS hl)
theorem T_idiv {x z : Int32} (hd : decode cc pc = .ok (.idiv, 1)) (hz : ¬ z = 0) (k : T X l y cc nL ret d (pc + 1) ls (.int (x / z) :: st) σ Q) : T X l y cc nL ret d pc ls (.int z :: .int x :: st) σ Q := by
  intro p e s m args below meth c H locs lsA hF hP hS hl
  exact lv_idiv hF.1 hF.2.1 hd hz (k p e s m args below meth c H locs lsA hF hP hS hl)
theorem T_irem {x z : Int32} (hd : decode cc pc = .ok (.irem, 1)) (hz : ¬ z = 0) (k : T X l y cc nL ret d (pc + 1) ls (.int (x - x / z * z) :: st) σ Q) : T X l y cc nL ret d pc ls (.int z :: .int x :: st) σ Q := by
  intro p e s m args below meth c H locs lsA hF hP hS hl
  exact lv_irem hF.1 hF.2.1 hd hz (k p e s m args below meth c H locs lsA hF hP hS hl)
theorem T_iushr {x z v : Int32} (hd : decode cc pc = .ok (.iushr, 1)) (hv : (x.toUInt32 >>> (z.toUInt32 &&& Int32.toUInt32 31)).toInt32 = v) (k : T X l y cc nL ret d (pc + 1) ls (.int v :: st) σ Q) : T X l y cc nL ret d pc ls (.int z :: .int x :: st) σ Q := by
  intro p e s m args below meth c H locs lsA hF hP hS hl
  exact lv_iushr hF.1 hF.2.1 hd hv (k p e s m args below meth c H locs lsA hF hP hS hl)
theorem T_ladd {x z : Int64} (hd : decode cc pc = .ok (.ladd, 1)) (k : T X l y cc nL ret d (pc + 1) ls (.long (x + z) :: st) σ Q) : T X l y cc nL ret d pc ls (.long z :: .long x :: st) σ Q := by
  intro p e s m args below meth c H locs lsA hF hP hS hl
  exact lv_ladd hF.1 hF.2.1 hd (k p e s m args below meth c H locs lsA hF hP hS hl)
theorem T_lsub {x z : Int64} (hd : decode cc pc = .ok (.lsub, 1)) (k : T X l y cc nL ret d (pc + 1) ls (.long (x - z) :: st) σ Q) : T X l y cc nL ret d pc ls (.long z :: .long x :: st) σ Q := by
  intro p e s m args below meth c H locs lsA hF hP hS hl
  exact lv_lsub hF.1 hF.2.1 hd (k p e s m args below meth c H locs lsA hF hP hS hl)
theorem T_lmul {x z : Int64} (hd : decode cc pc = .ok (.lmul, 1)) (k : T X l y cc nL ret d (pc + 1) ls (.long (x * z) :: st) σ Q) : T X l y cc nL ret d pc ls (.long z :: .long x :: st) σ Q := by
  intro p e s m args below meth c H locs lsA hF hP hS hl
  exact lv_lmul hF.1 hF.2.1 hd (k p e s m args below meth c H locs lsA hF hP hS hl)
theorem T_lcmp {x z : Int64} (hd : decode cc pc = .ok (.lcmp, 1)) (k : T X l y cc nL ret d (pc + 1) ls (.int (lg_cmp x z) :: st) σ Q) : T X l y cc nL ret d pc ls (.long z :: .long x :: st) σ Q := by
  intro p e s m args below meth c H locs lsA hF hP hS hl
  exact W.lcmp hF.1 hF.2.1 hd (k p e s m args below meth c H locs lsA hF hP hS hl)
theorem T_i2l {x : Int32} (hd : decode cc pc = .ok (.i2l, 1)) (k : T X l y cc nL ret d (pc + 1) ls (.long x.toInt64 :: st) σ Q) : T X l y cc nL ret d pc ls (.int x :: st) σ Q := by
  intro p e s m args below meth c H locs lsA hF hP hS hl
  exact lv_i2l hF.1 hF.2.1 hd rfl (k p e s m args below meth c H locs lsA hF hP hS hl)
theorem T_i2c {x v : Int32} (hd : decode cc pc = .ok (.i2c, 1)) (hv : (x.toUInt32 % 65536).toInt32 = v) (k : T X l y cc nL ret d (pc + 1) ls (.int v :: st) σ Q) : T X l y cc nL ret d pc ls (.int x :: st) σ Q := by
  intro p e s m args below meth c H locs lsA hF hP hS hl
  exact lv_i2c hF.1 hF.2.1 hd hv (k p e s m args below meth c H locs lsA hF hP hS hl)
theorem T_dup {v : Value} (hd : decode cc pc = .ok (.dup, 1)) (hv : v.category = 1) (k : T X l y cc nL ret d (pc + 1) ls (v :: v :: st) σ Q) : T X l y cc nL ret d pc ls (v :: st) σ Q := by
  intro p e s m args below meth c H locs lsA hF hP hS hl
  exact lv_dup hF.1 hF.2.1 hd hv (k p e s m args below meth c H locs lsA hF hP hS hl)
theorem T_pop {v : Value} (hd : decode cc pc = .ok (.pop, 1)) (hv : v.category = 1) (k : T X l y cc nL ret d (pc + 1) ls st σ Q) : T X l y cc nL ret d pc ls (v :: st) σ Q := by
  intro p e s m args below meth c H locs lsA hF hP hS hl
  exact lv_pop hF.1 hF.2.1 hd hv (k p e s m args below meth c H locs lsA hF hP hS hl)
theorem T_dup2 {v w : Value} (hd : decode cc pc = .ok (.dup2, 1)) (hv : v.category = 1) (hw : w.category = 1) (k : T X l y cc nL ret d (pc + 1) ls (v :: w :: v :: w :: st) σ Q) : T X l y cc nL ret d pc ls (v :: w :: st) σ Q := by
  intro p e s m args below meth c H locs lsA hF hP hS hl
  exact lv_dup2_11 hF.1 hF.2.1 hd hv hw (k p e s m args below meth c H locs lsA hF hP hS hl)
theorem T_goto {off : Int} (tgt : Nat) (hd : decode cc pc = .ok (.goto off, 3)) (ht : (pc : Int) + off = (tgt : Int)) (k : T X l y cc nL ret d tgt ls st σ Q) : T X l y cc nL ret d pc ls st σ Q := by
  intro p e s m args below meth c H locs lsA hF hP hS hl
  exact lv_goto hF.1 hF.2.1 hd ht (k p e s m args below meth c H locs lsA hF hP hS hl)
theorem T_if_eq {x : Int32} {off : Int} (tgt : Nat) (hd : decode cc pc = .ok (.ifCond .eq off, 3)) (ht : (pc : Int) + off = (tgt : Int)) (kt : x = 0 → T X l y cc nL ret d tgt ls st σ Q) (kf : ¬ x = 0 → T X l y cc nL ret d (pc + 3) ls st σ Q) : T X l y cc nL ret d pc ls (.int x :: st) σ Q := by
  intro p e s m args below meth c H locs lsA hF hP hS hl
  exact lv_if_eq hF.1 hF.2.1 hd ht (fun h => kt h p e s m args below meth c H locs lsA hF hP hS hl) (fun h => kf h p e s m args below meth c H locs lsA hF hP hS hl)
theorem T_if_ne {x : Int32} {off : Int} (tgt : Nat) (hd : decode cc pc = .ok (.ifCond .ne off, 3)) (ht : (pc : Int) + off = (tgt : Int)) (kt : ¬ x = 0 → T X l y cc nL ret d tgt ls st σ Q) (kf : x = 0 → T X l y cc nL ret d (pc + 3) ls st σ Q) : T X l y cc nL ret d pc ls (.int x :: st) σ Q := by
  intro p e s m args below meth c H locs lsA hF hP hS hl
  exact lv_if_ne hF.1 hF.2.1 hd ht (fun h => kt h p e s m args below meth c H locs lsA hF hP hS hl) (fun h => kf h p e s m args below meth c H locs lsA hF hP hS hl)
theorem T_if_lt {x : Int32} {off : Int} (tgt : Nat) (hd : decode cc pc = .ok (.ifCond .lt off, 3)) (ht : (pc : Int) + off = (tgt : Int)) (kt : x < 0 → T X l y cc nL ret d tgt ls st σ Q) (kf : ¬ x < 0 → T X l y cc nL ret d (pc + 3) ls st σ Q) : T X l y cc nL ret d pc ls (.int x :: st) σ Q := by
  intro p e s m args below meth c H locs lsA hF hP hS hl
  exact lv_if_lt hF.1 hF.2.1 hd ht (fun h => kt h p e s m args below meth c H locs lsA hF hP hS hl) (fun h => kf h p e s m args below meth c H locs lsA hF hP hS hl)
theorem T_if_ge {x : Int32} {off : Int} (tgt : Nat) (hd : decode cc pc = .ok (.ifCond .ge off, 3)) (ht : (pc : Int) + off = (tgt : Int)) (kt : 0 ≤ x → T X l y cc nL ret d tgt ls st σ Q) (kf : ¬ 0 ≤ x → T X l y cc nL ret d (pc + 3) ls st σ Q) : T X l y cc nL ret d pc ls (.int x :: st) σ Q := by
  intro p e s m args below meth c H locs lsA hF hP hS hl
  exact lv_if_ge hF.1 hF.2.1 hd ht (fun h => kt h p e s m args below meth c H locs lsA hF hP hS hl) (fun h => kf h p e s m args below meth c H locs lsA hF hP hS hl)
theorem T_if_gt {x : Int32} {off : Int} (tgt : Nat) (hd : decode cc pc = .ok (.ifCond .gt off, 3)) (ht : (pc : Int) + off = (tgt : Int)) (kt : 0 < x → T X l y cc nL ret d tgt ls st σ Q) (kf : ¬ 0 < x → T X l y cc nL ret d (pc + 3) ls st σ Q) : T X l y cc nL ret d pc ls (.int x :: st) σ Q := by
  intro p e s m args below meth c H locs lsA hF hP hS hl
  exact lv_if_gt hF.1 hF.2.1 hd ht (fun h => kt h p e s m args below meth c H locs lsA hF hP hS hl) (fun h => kf h p e s m args below meth c H locs lsA hF hP hS hl)
theorem T_if_le {x : Int32} {off : Int} (tgt : Nat) (hd : decode cc pc = .ok (.ifCond .le off, 3)) (ht : (pc : Int) + off = (tgt : Int)) (kt : x ≤ 0 → T X l y cc nL ret d tgt ls st σ Q) (kf : ¬ x ≤ 0 → T X l y cc nL ret d (pc + 3) ls st σ Q) : T X l y cc nL ret d pc ls (.int x :: st) σ Q := by
  intro p e s m args below meth c H locs lsA hF hP hS hl
  exact lv_if_le hF.1 hF.2.1 hd ht (fun h => kt h p e s m args below meth c H locs lsA hF hP hS hl) (fun h => kf h p e s m args below meth c H locs lsA hF hP hS hl)
theorem T_icmp_eq {x z : Int32} {off : Int} (tgt : Nat) (hd : decode cc pc = .ok (.if_icmp .eq off, 3)) (ht : (pc : Int) + off = (tgt : Int)) (kt : x = z → T X l y cc nL ret d tgt ls st σ Q) (kf : ¬ x = z → T X l y cc nL ret d (pc + 3) ls st σ Q) : T X l y cc nL ret d pc ls (.int z :: .int x :: st) σ Q := by
  intro p e s m args below meth c H locs lsA hF hP hS hl
  exact lv_icmp_eq hF.1 hF.2.1 hd ht (fun h => kt h p e s m args below meth c H locs lsA hF hP hS hl) (fun h => kf h p e s m args below meth c H locs lsA hF hP hS hl)
theorem T_icmp_ne {x z : Int32} {off : Int} (tgt : Nat) (hd : decode cc pc = .ok (.if_icmp .ne off, 3)) (ht : (pc : Int) + off = (tgt : Int)) (kt : ¬ x = z → T X l y cc nL ret d tgt ls st σ Q) (kf : x = z → T X l y cc nL ret d (pc + 3) ls st σ Q) : T X l y cc nL ret d pc ls (.int z :: .int x :: st) σ Q := by
  intro p e s m args below meth c H locs lsA hF hP hS hl
  exact lv_icmp_ne hF.1 hF.2.1 hd ht (fun h => kt h p e s m args below meth c H locs lsA hF hP hS hl) (fun h => kf h p e s m args below meth c H locs lsA hF hP hS hl)
theorem T_icmp_lt {x z : Int32} {off : Int} (tgt : Nat) (hd : decode cc pc = .ok (.if_icmp .lt off, 3)) (ht : (pc : Int) + off = (tgt : Int)) (kt : x < z → T X l y cc nL ret d tgt ls st σ Q) (kf : ¬ x < z → T X l y cc nL ret d (pc + 3) ls st σ Q) : T X l y cc nL ret d pc ls (.int z :: .int x :: st) σ Q := by
  intro p e s m args below meth c H locs lsA hF hP hS hl
  exact lv_icmp_lt hF.1 hF.2.1 hd ht (fun h => kt h p e s m args below meth c H locs lsA hF hP hS hl) (fun h => kf h p e s m args below meth c H locs lsA hF hP hS hl)
theorem T_icmp_ge {x z : Int32} {off : Int} (tgt : Nat) (hd : decode cc pc = .ok (.if_icmp .ge off, 3)) (ht : (pc : Int) + off = (tgt : Int)) (kt : z ≤ x → T X l y cc nL ret d tgt ls st σ Q) (kf : ¬ z ≤ x → T X l y cc nL ret d (pc + 3) ls st σ Q) : T X l y cc nL ret d pc ls (.int z :: .int x :: st) σ Q := by
  intro p e s m args below meth c H locs lsA hF hP hS hl
  exact lv_icmp_ge hF.1 hF.2.1 hd ht (fun h => kt h p e s m args below meth c H locs lsA hF hP hS hl) (fun h => kf h p e s m args below meth c H locs lsA hF hP hS hl)
theorem T_icmp_gt {x z : Int32} {off : Int} (tgt : Nat) (hd : decode cc pc = .ok (.if_icmp .gt off, 3)) (ht : (pc : Int) + off = (tgt : Int)) (kt : z < x → T X l y cc nL ret d tgt ls st σ Q) (kf : ¬ z < x → T X l y cc nL ret d (pc + 3) ls st σ Q) : T X l y cc nL ret d pc ls (.int z :: .int x :: st) σ Q := by
  intro p e s m args below meth c H locs lsA hF hP hS hl
  exact lv_icmp_gt hF.1 hF.2.1 hd ht (fun h => kt h p e s m args below meth c H locs lsA hF hP hS hl) (fun h => kf h p e s m args below meth c H locs lsA hF hP hS hl)
theorem T_icmp_le {x z : Int32} {off : Int} (tgt : Nat) (hd : decode cc pc = .ok (.if_icmp .le off, 3)) (ht : (pc : Int) + off = (tgt : Int)) (kt : x ≤ z → T X l y cc nL ret d tgt ls st σ Q) (kf : ¬ x ≤ z → T X l y cc nL ret d (pc + 3) ls st σ Q) : T X l y cc nL ret d pc ls (.int z :: .int x :: st) σ Q := by
  intro p e s m args below meth c H locs lsA hF hP hS hl
  exact lv_icmp_le hF.1 hF.2.1 hd ht (fun h => kt h p e s m args below meth c H locs lsA hF hP hS hl) (fun h => kf h p e s m args below meth c H locs lsA hF hP hS hl)
theorem T_tableOut {dflt lo hi : Int} {offs : Array Int} {len : Nat} {x : Int32} (tgt : Nat) (hd : decode cc pc = .ok (.tableswitch dflt lo hi offs, len)) (h : x.toInt < lo ∨ hi < x.toInt) (ht : (pc : Int) + dflt = (tgt : Int)) (k : T X l y cc nL ret d tgt ls st σ Q) : T X l y cc nL ret d pc ls (.int x :: st) σ Q := by
  intro p e s m args below meth c H locs lsA hF hP hS hl
  exact lv_tableOut hF.1 hF.2.1 hd h ht (k p e s m args below meth c H locs lsA hF hP hS hl)
theorem T_tableIn {dflt lo hi : Int} {offs : Array Int} {len : Nat} {x : Int32} {off : Int} (tgt : Nat) (hd : decode cc pc = .ok (.tableswitch dflt lo hi offs, len)) (h1 : ¬ x.toInt < lo) (h2 : ¬ hi < x.toInt) (ho : offs[(x.toInt - lo).toNat]? = some off) (ht : (pc : Int) + off = (tgt : Int)) (k : T X l y cc nL ret d tgt ls st σ Q) : T X l y cc nL ret d pc ls (.int x :: st) σ Q := by
  intro p e s m args below meth c H locs lsA hF hP hS hl
  exact lv_tableIn hF.1 hF.2.1 hd h1 h2 ho ht (k p e s m args below meth c H locs lsA hF hP hS hl)
theorem T_iret {v : Int32} (hr : ret = some .int) (hd : decode cc pc = .ok (.ireturn, 1)) (hQ : Q (some (.int v)) σ) : T X l y cc nL ret d pc ls [.int v] σ Q := by
  intro p e s m args below meth c H locs lsA hF hP hS hl
  exact W.iret hF.1 hF.2.1 (hF.2.2.2.1.trans hr) (fun t ht _ => ⟨⟨_, σ, rfl, hQ, by rw [ht]; exact hP⟩, hS.F ht⟩) hS.2.2 hd hF.2.2.2.2.1
theorem T_zret {v : Int32} {ty : FieldType} (hr : ret = some ty) (hn : narrow ty (.int v) = .int v) (hd : decode cc pc = .ok (.ireturn, 1)) (hQ : Q (some (.int v)) σ) : T X l y cc nL ret d pc ls [.int v] σ Q := by
  intro p e s m args below meth c H locs lsA hF hP hS hl
  exact W.zret hF.1 hF.2.1 (hF.2.2.2.1.trans hr) hn (fun t ht _ => ⟨⟨_, σ, rfl, hQ, by rw [ht]; exact hP⟩, hS.F ht⟩) hS.2.2 hd hF.2.2.2.2.1
theorem T_vret (hr : ret = none) (hd : decode cc pc = .ok (.return_, 1)) (hQ : Q none σ) : T X l y cc nL ret d pc ls [] σ Q := by
  intro p e s m args below meth c H locs lsA hF hP hS hl
  exact W.vret hF.1 hF.2.1 (hF.2.2.2.1.trans hr) (fun t ht _ => ⟨⟨_, σ, rfl, hQ, by rw [ht]; exact hP⟩, hS.F ht⟩) hS.2.2 hd hF.2.2.2.2.1
theorem T_get {K r k ci N index : Nat} {C : String} {Tt : u_T} {g : Nat → Int32} {fs : List Value} {v : Value} (hg : σ K r k = g) (hid : (K, r, k) ∈ ids X) (hc : cel X g K r k = .inr (ci, fs)) (hcl : vwCl[ci]? = some (C, Tt, N)) (hin : ∀ w ∈ u_ws C Tt N, w ∈ tb) (f : Nat) (hf : f < N) (hlink : Cond.fieldLink y.cls index (Tt f).1 (Tt f).2.1 (Tt f).2.2.1 ∈ tb) (hv : fs[f]? = some v) (hd : decode cc pc = .ok (.getfield index, 3))
    (kk : T X l y cc nL ret d (pc + 3) ls (v :: st) σ Q) : T X l y cc nL ret d pc ls (.ref (adr X K r k) :: st) σ Q := by
  intro p e s m args below meth c H locs lsA hF hP hS hl
  obtain ⟨i, -, hi⟩ := wl_get X σ hid
  rw [hg, hc] at hi
  exact va_get (C := C) (T := Tt) (N := N) hF.1 hF.2.1 hF.2.2.2.2.2.2.1 hin hF.2.2.2.2.2.1 hF.2.2.2.2.2.2.2.1.2.1 hP i hi hcl f hf (hF.2.2.2.2.2.2.1 _ hlink) (fun _ h => h) hv hd (kk p e s m args below meth c H locs lsA hF hP hS hl)
/-- an int field is written -/
theorem T_put {K r k ci N index : Nat} {C : String} {Tt : u_T} {h : Rg} {fs : List Value} {x : Int32} {σ' : Hp} (hh : σ K r = h) (hid : (K, r, k) ∈ ids X) (hc : cel X (h k) K r k = .inr (ci, fs)) (hcl : vwCl[ci]? = some (C, Tt, N)) (hin : ∀ w ∈ u_ws C Tt N, w ∈ tb) (ty0 : Nat → FieldType) (hty : ∀ k, k < N → parseFieldDescriptor (Tt k).2.2.1 = some (ty0 k)) (hnm : ∀ a, a < N → ∀ b, b < N → a ≠ b → (Tt a).2.1 ≠ (Tt b).2.1) (f : Nat) (hf : f < N) (hfin : (Tt f).2.2.2 = false) (hI : ty0 f = .int) (hlink : Cond.fieldLink y.cls index (Tt f).1 (Tt f).2.1 (Tt f).2.2.1 ∈ tb) (hfl : f < fs.length) (hset : cel X (upd (h k) f x) K r k = .inr (ci, fs.set f (.int x))) (hs : setR σ K r (up2 h k f x) = σ') (hd : decode cc pc = .ok (.putfield index, 3))
    (kk : T X l y cc nL ret d (pc + 3) ls st σ' Q) : T X l y cc nL ret d pc ls (.int x :: .ref (adr X K r k) :: st) σ Q := by
  intro p e s m args below meth c H locs lsA hF hP hS hl
  subst hs
  subst hh
  obtain ⟨i, hi0, hi⟩ := wl_get X σ hid
  rw [hc] at hi
  have hX := hF.2.2.2.2.2.2.2.1.1
  refine va_put (C := C) (T := Tt) (N := N) (ty := .int) hF.1 hF.2.1 hF.2.2.2.2.2.2.1 hin ty0 hty hnm hF.2.2.2.2.2.1 hF.2.2.2.2.2.2.2.1.2.1 hP (wl_D hX σ) hS i hi hcl f hf (hF.2.2.2.2.2.2.1 _ hlink) (fun _ h => h) hfin (by rw [hty f hf, hI]) rfl rfl hfl hd (fun H1 locs1 hP1 _ hS1 => ?_)
  refine kk p e s m args below meth c H1 locs1 lsA hF ?_ hS1 hl
  rw [wl_set (σ' := setR σ K r (up2 (σ K r) k f x)) hX hi0 ?_ ?_] at hP1
  · exact hP1
  · intro K' r' k' hn
    unfold setR
    split
    · rename_i h
      rw [h.1, h.2, up2_ne (fun e => hn ⟨h.1, h.2, e⟩)]
    · rfl
  · rw [setR_self, up2_same]
    exact hset
theorem T_iald {K r k n : Nat} {g : Nat → Int32} {i : Int32} (hg : σ K r k = g) (hid : (K, r, k) ∈ ids X) (hc : cel X g K r k = arI X 0 n g) (hn : n < 2 ^ 31) (j : Nat) (hj : j < n) (hi : i = nI j) (hd : decode cc pc = .ok (.iaload, 1))
    (kk : T X l y cc nL ret d (pc + 1) ls (.int (g j) :: st) σ Q) : T X l y cc nL ret d pc ls (.int i :: .ref (adr X K r k) :: st) σ Q := by
  intro p e s m args below meth c H locs lsA hF hP hS hl
  obtain ⟨q, -, hq⟩ := wl_get X σ hid
  rw [hg, hc] at hq
  subst hi
  refine va_iald hF.1 hF.2.1 hF.2.2.2.2.2.2.2.1.2.1 hP q 0 hq rfl (vp_in_nI hj hn) hd ?_
  rw [nI_clamp (by omega)]
  exact kk p e s m args below meth c H locs lsA hF hP hS hl
theorem T_cald {K r k n : Nat} {g : Nat → Int32} {i : Int32} (hg : σ K r k = g) (hid : (K, r, k) ∈ ids X) (hc : cel X g K r k = arI X 1 n g) (hn : n < 2 ^ 31) (j : Nat) (hj : j < n) (hi : i = nI j) (hd : decode cc pc = .ok (.caload, 1))
    (kk : T X l y cc nL ret d (pc + 1) ls (.int (g j) :: st) σ Q) : T X l y cc nL ret d pc ls (.int i :: .ref (adr X K r k) :: st) σ Q := by
  intro p e s m args below meth c H locs lsA hF hP hS hl
  obtain ⟨q, -, hq⟩ := wl_get X σ hid
  rw [hg, hc] at hq
  subst hi
  refine va_cald hF.1 hF.2.1 hF.2.2.2.2.2.2.2.1.2.1 hP q 1 hq rfl (vp_in_nI hj hn) hd ?_
  rw [nI_clamp (by omega)]
  exact kk p e s m args below meth c H locs lsA hF hP hS hl
theorem T_zald {K r k n : Nat} {g : Nat → Int32} {i : Int32} (hg : σ K r k = g) (hid : (K, r, k) ∈ ids X) (hc : cel X g K r k = arI X 2 n g) (hn : n < 2 ^ 31) (j : Nat) (hj : j < n) (hi : i = nI j) (hd : decode cc pc = .ok (.baload, 1))
    (kk : T X l y cc nL ret d (pc + 1) ls (.int (g j) :: st) σ Q) : T X l y cc nL ret d pc ls (.int i :: .ref (adr X K r k) :: st) σ Q := by
  intro p e s m args below meth c H locs lsA hF hP hS hl
  obtain ⟨q, -, hq⟩ := wl_get X σ hid
  rw [hg, hc] at hq
  subst hi
  refine va_zald hF.1 hF.2.1 hF.2.2.2.2.2.2.2.1.2.1 hP q 2 hq rfl (vp_in_nI hj hn) hd ?_
  rw [nI_clamp (by omega)]
  exact kk p e s m args below meth c H locs lsA hF hP hS hl
theorem T_iast {K r k n : Nat} {h : Rg} {i x : Int32} {σ' : Hp} (hh : σ K r = h) (hid : (K, r, k) ∈ ids X) (hc : ∀ g : Nat → Int32, cel X g K r k = arI X 0 n g) (hn : n < 2 ^ 31) (j : Nat) (hj : j < n) (hi : i = nI j) (hs : setR σ K r (up2 h k j x) = σ') (hd : decode cc pc = .ok (.iastore, 1))
    (kk : T X l y cc nL ret d (pc + 1) ls st σ' Q) : T X l y cc nL ret d pc ls (.int x :: .int i :: .ref (adr X K r k) :: st) σ Q := by
  intro p e s m args below meth c H locs lsA hF hP hS hl
  subst hs
  subst hh
  subst hi
  obtain ⟨q, hq0, hq⟩ := wl_get X σ hid
  rw [hc] at hq
  have hX := hF.2.2.2.2.2.2.2.1.1
  refine va_iast hF.1 hF.2.1 hF.2.2.2.2.2.2.2.1.2.1 hP (wl_D hX σ) hS q 0 hq rfl (vp_in_nI hj hn) hd (fun H1 locs1 hP1 _ hS1 => ?_)
  rw [nI_clamp (by omega)] at hP1
  refine kk p e s m args below meth c H1 locs1 lsA hF ?_ hS1 hl
  rw [wl_set (σ' := setR σ K r (up2 (σ K r) k j x)) hX hq0 ?_ ?_] at hP1
  · exact hP1
  · intro K' r' k' hn
    unfold setR
    split
    · rename_i h
      rw [h.1, h.2, up2_ne (fun e => hn ⟨h.1, h.2, e⟩)]
    · rfl
  · rw [setR_self, up2_same]
    exact hc _
theorem T_cast {K r k n : Nat} {h : Rg} {i x : Int32} {σ' : Hp} (hh : σ K r = h) (hid : (K, r, k) ∈ ids X) (hc : ∀ g : Nat → Int32, cel X g K r k = arI X 1 n g) (hn : n < 2 ^ 31) (j : Nat) (hj : j < n) (hi : i = nI j) (hs : setR σ K r (up2 h k j (vp_nar .char x)) = σ') (hd : decode cc pc = .ok (.castore, 1))
    (kk : T X l y cc nL ret d (pc + 1) ls st σ' Q) : T X l y cc nL ret d pc ls (.int x :: .int i :: .ref (adr X K r k) :: st) σ Q := by
  intro p e s m args below meth c H locs lsA hF hP hS hl
  subst hs
  subst hh
  subst hi
  obtain ⟨q, hq0, hq⟩ := wl_get X σ hid
  rw [hc] at hq
  have hX := hF.2.2.2.2.2.2.2.1.1
  refine va_cast hF.1 hF.2.1 hF.2.2.2.2.2.2.2.1.2.1 hP (wl_D hX σ) hS q 1 hq rfl (vp_in_nI hj hn) hd (fun H1 locs1 hP1 _ hS1 => ?_)
  rw [nI_clamp (by omega)] at hP1
  refine kk p e s m args below meth c H1 locs1 lsA hF ?_ hS1 hl
  rw [wl_set (σ' := setR σ K r (up2 (σ K r) k j (vp_nar .char x))) hX hq0 ?_ ?_] at hP1
  · exact hP1
  · intro K' r' k' hn
    unfold setR
    split
    · rename_i h
      rw [h.1, h.2, up2_ne (fun e => hn ⟨h.1, h.2, e⟩)]
    · rfl
  · rw [setR_self, up2_same]
    exact hc _
theorem T_zast {K r k n : Nat} {h : Rg} {i x : Int32} {σ' : Hp} (hh : σ K r = h) (hid : (K, r, k) ∈ ids X) (hc : ∀ g : Nat → Int32, cel X g K r k = arI X 2 n g) (hn : n < 2 ^ 31) (j : Nat) (hj : j < n) (hi : i = nI j) (hs : setR σ K r (up2 h k j (vp_nar .boolean x)) = σ') (hd : decode cc pc = .ok (.bastore, 1))
    (kk : T X l y cc nL ret d (pc + 1) ls st σ' Q) : T X l y cc nL ret d pc ls (.int x :: .int i :: .ref (adr X K r k) :: st) σ Q := by
  intro p e s m args below meth c H locs lsA hF hP hS hl
  subst hs
  subst hh
  subst hi
  obtain ⟨q, hq0, hq⟩ := wl_get X σ hid
  rw [hc] at hq
  have hX := hF.2.2.2.2.2.2.2.1.1
  refine va_zast hF.1 hF.2.1 hF.2.2.2.2.2.2.2.1.2.1 hP (wl_D hX σ) hS q 2 hq rfl (vp_in_nI hj hn) hd (fun H1 locs1 hP1 _ hS1 => ?_)
  rw [nI_clamp (by omega)] at hP1
  refine kk p e s m args below meth c H1 locs1 lsA hF ?_ hS1 hl
  rw [wl_set (σ' := setR σ K r (up2 (σ K r) k j (vp_nar .boolean x))) hX hq0 ?_ ?_] at hP1
  · exact hP1
  · intro K' r' k' hn
    unfold setR
    split
    · rename_i h
      rw [h.1, h.2, up2_ne (fun e => hn ⟨h.1, h.2, e⟩)]
    · rfl
  · rw [setR_self, up2_same]
    exact hc _
theorem T_aald {K r k n : Nat} {g : Nat → Int32} {f : Nat → Option Nat} {i : Int32} {a : Nat} (hg : σ K r k = g) (hid : (K, r, k) ∈ ids X) (hc : cel X g K r k = arR X n f) (hn : n < 2 ^ 31) (j : Nat) (hj : j < n) (hi : i = nI j) (hf : f j = some a) (hd : decode cc pc = .ok (.aaload, 1))
    (kk : T X l y cc nL ret d (pc + 1) ls (.ref a :: st) σ Q) : T X l y cc nL ret d pc ls (.int i :: .ref (adr X K r k) :: st) σ Q := by
  intro p e s m args below meth c H locs lsA hF hP hS hl
  obtain ⟨q, -, hq⟩ := wl_get X σ hid
  rw [hg, hc] at hq
  subst hi
  refine va_aldq hF.1 hF.2.1 hF.2.2.2.2.2.2.2.1.2.1 hP q 3 hq rfl (vp_in_nI hj hn) hd ?_
  rw [nI_clamp (by omega), hf]
  exact kk p e s m args below meth c H locs lsA hF hP hS hl
theorem T_alen {K r k n c0 : Nat} {g : Nat → Int32} {v : Int32} (hg : σ K r k = g) (hid : (K, r, k) ∈ ids X) (hc : cel X g K r k = arI X c0 n g) (hc0 : c0 < 3) (hv : Int32.ofNat n = v) (hd : decode cc pc = .ok (.arraylength, 1))
    (kk : T X l y cc nL ret d (pc + 1) ls (.int v :: st) σ Q) : T X l y cc nL ret d pc ls (.ref (adr X K r k) :: st) σ Q := by
  intro p e s m args below meth c H locs lsA hF hP hS hl
  obtain ⟨q, -, hq⟩ := wl_get X σ hid
  rw [hg, hc] at hq
  rcases (show c0 = 0 ∨ c0 = 1 ∨ c0 = 2 by omega) with rfl | rfl | rfl
  · exact va_alen hF.1 hF.2.1 hF.2.2.2.2.2.2.2.1.2.1 hP q 0 hq (ty := .int) rfl hv hd (kk p e s m args below meth c H locs lsA hF hP hS hl)
  · exact va_alen hF.1 hF.2.1 hF.2.2.2.2.2.2.2.1.2.1 hP q 1 hq (ty := .char) rfl hv hd (kk p e s m args below meth c H locs lsA hF hP hS hl)
  · exact va_alen hF.1 hF.2.1 hF.2.2.2.2.2.2.2.1.2.1 hP q 2 hq (ty := .boolean) rfl hv hd (kk p e s m args below meth c H locs lsA hF hP hS hl)
theorem T_max {index : Nat} {x z : Int32} (hw : Cond.methodLink y.cls index Lib.Math.max.name ∈ tb) (hs : Cond.static Lib.Math.max.name ∈ tb) (hi : Cond.initialized "java/lang/Math" ∈ tb) (hco : Cond.code Lib.Math.max.name Lib.Math.max.code 2 (some .int) ∈ tb) (hd1 : 1 ≤ d) (hr : (st.map fun v => v.category).sum ≤ 8) (hd : decode cc pc = .ok (.invokestatic index, 3))
    (kk : T X l y cc nL ret d (pc + 3) ls (.int (if x < z then z else x) :: st) σ Q) : T X l y cc nL ret d pc ls (.int z :: .int x :: st) σ Q := by
  intro p e s m args below meth c H locs lsA hF hP hS hl
  exact va_mmax hF.1 hF.2.1 (hF.2.2.1.trans hl.1.symm) hF.2.2.2.2.2.1 (hF.2.2.2.2.2.2.1 _ hw) (hF.2.2.2.2.2.2.1 _ hs) (hF.2.2.2.2.2.2.1 _ hi) (hF.2.2.2.2.2.2.1 _ hco) hd1 (by show _ ≤ 36 * d; omega) (Nat.le_refl _) (Nat.le_refl _) hd (kk p e s m args below meth c H locs lsA hF hP hS hl)
theorem T_min {index : Nat} {x z : Int32} (hw : Cond.methodLink y.cls index Lib.Math.min.name ∈ tb) (hs : Cond.static Lib.Math.min.name ∈ tb) (hi : Cond.initialized "java/lang/Math" ∈ tb) (hco : Cond.code Lib.Math.min.name Lib.Math.min.code 2 (some .int) ∈ tb) (hd1 : 1 ≤ d) (hr : (st.map fun v => v.category).sum ≤ 8) (hd : decode cc pc = .ok (.invokestatic index, 3))
    (kk : T X l y cc nL ret d (pc + 3) ls (.int (if z < x then z else x) :: st) σ Q) : T X l y cc nL ret d pc ls (.int z :: .int x :: st) σ Q := by
  intro p e s m args below meth c H locs lsA hF hP hS hl
  exact va_mmin hF.1 hF.2.1 (hF.2.2.1.trans hl.1.symm) hF.2.2.2.2.2.1 (hF.2.2.2.2.2.2.1 _ hw) (hF.2.2.2.2.2.2.1 _ hs) (hF.2.2.2.2.2.2.1 _ hi) (hF.2.2.2.2.2.2.1 _ hco) hd1 (by show _ ≤ 36 * d; omega) (Nat.le_refl _) (Nat.le_refl _) hd (kk p e s m args below meth c H locs lsA hF hP hS hl)
/-- System.arraycopy of a whole int array of a region into the same cell of another region of its kind -/
theorem T_acopy {index K r r' k n : Nat} {h' : Rg} {g : Nat → Int32} {σ' : Hp} {sp dp nn : Int32} (hw : Cond.methodLink y.cls index arraycopyName ∈ tb) (hn1 : Cond.native arraycopyName ∈ tb) (hst : Cond.static arraycopyName ∈ tb) (hini : Cond.initialized "java/lang/System" ∈ tb) (hg : σ K r k = g) (hh : σ K r' = h') (hid : (K, r, k) ∈ ids X) (hid' : (K, r', k) ∈ ids X) (hc : ∀ g : Nat → Int32, cel X g K r k = arI X 0 n g) (hc' : ∀ g : Nat → Int32, cel X g K r' k = arI X 0 n g) (hn : n < 2 ^ 31) (hsp : sp = 0) (hdp : dp = 0) (hnn : nn = nI n) (hd1 : 2 ≤ d) (hr : (st.map fun v => v.category).sum ≤ 8) (hs : setR σ K r' (up1 h' k g) = σ') (hd : decode cc pc = .ok (.invokestatic index, 3))
    (kk : T X l y cc nL ret d (pc + 3) ls st σ' Q) : T X l y cc nL ret d pc ls (.int nn :: .int dp :: .ref (adr X K r' k) :: .int sp :: .ref (adr X K r k) :: st) σ Q := by
  intro p e s m args below meth c H locs lsA hF hP hS hl
  subst hs
  subst hh
  subst hg
  subst hsp
  subst hdp
  subst hnn
  obtain ⟨q, hq0, hq⟩ := wl_get X σ hid
  obtain ⟨q', hq0', hq'⟩ := wl_get X σ hid'
  rw [hc] at hq
  rw [hc'] at hq'
  have hX := hF.2.2.2.2.2.2.2.1.1
  have hz : ((0 : Int32)).toNatClampNeg = 0 := rfl
  have hz2 : (nI n).toNatClampNeg = n := nI_clamp hn
  refine va_copyi (ty := .int) hF.1 hF.2.1 (hF.2.2.1.trans hl.1.symm) hF.2.2.2.2.2.1 (hF.2.2.2.2.2.2.1 _ hw) (hF.2.2.2.2.2.2.1 _ hn1) (hF.2.2.2.2.2.2.1 _ hst) (hF.2.2.2.2.2.2.1 _ hini) hF.2.2.2.2.2.2.2.1.2.1 hP (wl_D hX σ) hS q q' 0 0 hq hq' rfl rfl rfl (by decide) (by decide) (nI_pos hn) (by rw [hz, hz2]; omega) (by rw [hz, hz2]; omega) (fun _ _ => rfl) (by show 1 ≤ d; omega) (by
      have hw : nativeFrameWords "java/lang/System" "arraycopy" 5 ≤ 40 := by decide +kernel
      show _ ≤ 36 * d
      omega) hd (fun H1 locs1 hP1 _ hS1 => ?_)
  refine kk p e s m args below meth c H1 locs1 lsA hF ?_ hS1 hl
  rw [hz, hz2] at hP1
  have hP2 : va_P X.1 vwCl ((wl X σ).set q' (adr X K r' k, arI X 0 n (σ K r k))) H1 := by
    intro j z hj
    by_cases hjq : q' = j
    · subst hjq
      have hlt : q' < (wl X σ).length := (List.getElem?_eq_some_iff.mp hq').1
      rw [List.getElem?_set_self hlt] at hj
      cases hj
      have h1 := hP1 q' _ (List.getElem?_set_self hlt)
      have e1 : vp_cell (X.2.1 0) (n, .inl (va_cpy (σ K r k) (σ K r' k) 0 0 n)) = vp_cell (X.2.1 0) (n, .inl (σ K r k)) := by
        rw [vp_cell_i, vp_cell_i]
        unfold arrV
        congr 2
        funext j
        have hj := j.isLt
        simp [va_cpy]
      show H1[adr X K r' k]? = some (vp_cell _ _)
      rw [← e1]
      exact h1
    · rw [List.getElem?_set_ne hjq] at hj
      exact hP1 j z (by rw [List.getElem?_set_ne hjq]; exact hj)
  rw [wl_set (σ' := setR σ K r' (up1 (σ K r') k (σ K r k))) hX hq0' ?_ ?_] at hP2
  · exact hP2
  · intro K' r'' k' hn
    unfold setR
    split
    · rename_i h
      rw [h.1, h.2, up1_ne (fun e => hn ⟨h.1, h.2, e⟩)]
    · rfl
  · rw [setR_self, up1_same]
    exact hc' _
end ROWS
end
section
/-! ===== calls, over contracts ===== -/
section CALLS
variable {X : Cx} {l : Launch} {y : MethodName} {cc : ByteArray} {nL : Nat} {ret : Option FieldType} {d pc : Nat} {ls : List (Option Value)} {st rest : List Value} {σ u : Hp} {Q Qy : Option Value → Hp → Prop}
theorem T_call {a : Array Value} (hr : ∀ (p : Program) (e : Env) (s : State) (m : MethodId) (args : Array Value) (below : List Frame) (meth : Method) (c : Code) (H : Heap) (locs : List Loc) (lsA : Array Slot), Fx X p s m args meth c y cc nL ret → va_P X.1 vwCl (wl X σ) H → va_S (Ax X) s.heap H locs → lv_has lsA nL (kn 0 ls) → va_Run p l e (rmD d) s m args below meth c H locs 0 0 0 0 (F0 m pc lsA st) rest (QT X Qy a) (Ax X))
    (kk : ∀ r u, Qy r u → T X l y cc nL ret d (pc + 3) ls (r.toList ++ rest) u Q) : T X l y cc nL ret d pc ls st σ Q := by
  intro p e s m args below meth c H locs lsA hF hP hS hl
  intro T0 hT X0
  obtain ⟨v, st₀, t, T', L, h0, X', hL, e1, e2, ⟨⟨r, u, hv, hq, hp⟩, hz, hk⟩, stp⟩ := hr p e s m args below meth c H locs lsA hF hP hS hl T0 hT X0
  cases hv
  rw [h0] at hz hk
  obtain ⟨t2, a1, b1⟩ := kk v u hq p e s m args below meth c T'.heap (locs ++ L) lsA hF (by rw [e1]; exact hp) ⟨Nat.le_trans hS.1 (by rw [e1]; exact hz), fun q h1 h2 => by rw [e1, hk q (Nat.lt_of_lt_of_le h1 hS.1) h2]; exact hS.2.1 q h1 h2, fun q hq => by
      rcases List.mem_append.mp hq with h | h
      · exact hS.2.2 q h
      · exact hL q h⟩ hl T' rfl X'
  exact ⟨t2, stp t2 a1, b1⟩
/-- a receiver's class -/
def Rc (X : Cx) (σ : Hp) (b : Nat) (C : String) : Prop := ∀ (s : State) (H : Heap) (locs : List Loc), KX X s → SX X s → va_P X.1 vwCl (wl X σ) H → va_S (Ax X) s.heap H locs → ∃ cellB : Cell, H[b]? = some cellB ∧ cellB.vm.isStatics = false ∧ s.vm.findClass C = some cellB.cls
theorem Rc_of {K r k ci : Nat} {q : vw_C} {fs : List Value} (hid : (K, r, k) ∈ ids X) (hc : cel X (σ K r k) K r k = .inr (ci, fs)) (hq : vwCl[ci]? = some q) : Rc X σ (adr X K r k) q.1 := by
  intro s H locs hK _ hP _
  obtain ⟨i, -, hi⟩ := wl_get X σ hid
  rw [hc] at hi
  exact va_recv hK.2.1 hP hq hi
theorem Rc_str {i : Nat} (hi : i < 2) : Rc X σ (X.2.2.2.2.1 i) "java/lang/String" := by
  intro s H locs hK hSX _ hS
  exact vk_recv hSX.2.1 hi hS
theorem T_callV {C : String} {index d2 nL2 b : Nat} {y2 : MethodName} {cc2 : ByteArray} {ret2 : Option FieldType} {As : List Value} (hrec : Rc X σ b C) (hC : Con X l y2 cc2 nL2 ret2 d2 (.ref b :: As) σ Qy) (h1 : Cond.methodLink y.cls index y2 ∈ tb) (h2 : Cond.instanceMethod y2 ∈ tb) (h3 : Cond.selects C y2 y2 ∈ tb) (h4 : Cond.initialized C ∈ tb) (h5 : Cond.code y2 cc2 nL2 ret2 ∈ tb) (hyC : y2.cls = C)
    (hde : y2.cls ≠ "java/lang/invoke/MethodHandle" ∧ y2.cls ≠ "java/lang/invoke/VarHandle" ∧ (parseMethodDescriptor y2.desc).map (fun d => d.parameters.length) = some As.length) (hd2 : d2 + 1 ≤ d) (hn2 : nL2 ≤ 17) (hst : st = As.reverse ++ .ref b :: rest) (hW : (rest.map fun v => v.category).sum ≤ 8) (hdg : decode cc pc = .ok (.invokevirtual index, 3))
    (kk : ∀ r u, Qy r u → T X l y cc nL ret d (pc + 3) ls (r.toList ++ rest) u Q) : T X l y cc nL ret d pc ls st σ Q := by
  refine T_call (rest := rest) (a := (Value.ref b :: As).toArray) (fun p e s m args below meth c H locs lsA hF hP hS hl => ?_) kk
  have hts := hF.2.2.2.2.2.2.1
  have hG : GoodIn tb (wsV y.cls index C y2 (Cond.code y2 cc2 nL2 ret2 :: tb)) := by
    intro w hw
    refine tb_good w ?_
    simp only [wsV, List.mem_append, List.mem_cons, List.not_mem_nil, or_false] at hw
    rcases hw with (rfl | rfl | rfl | rfl) | rfl | hw
    · exact h1
    · exact h2
    · exact h3
    · exact h4
    · exact h5
    · exact hw
  exact va_runV (nL := nL) (Ts := tb) (own := y.cls) (As := As) (rest := rest) ⟨hF.1, hF.2.1, hF.2.2.1, hF.2.2.2.2.2.1, hts⟩ hC (cwV As.length hts hG rfl rfl rfl ⟨hyC, hde⟩ ⟨hd2, by show 8 + (nL2 + 11) + 36 * d2 ≤ 36 * d; omega⟩)
    ⟨con_blind, hrec s H locs hF.2.2.2.2.2.2.2.1 hF.2.2.2.2.2.2.2.2 hP hS, fun U hU hW1 => ⟨rfl, by rw [hU]; exact hP, KX.warm hW1 hF.2.2.2.2.2.2.2.1, SX.moved (locs := locs) hW1.alike (by rw [hU]; exact hS) hF.2.2.2.2.2.2.2.2⟩⟩ rfl rfl hl.1 hst (lv_room hW) hdg ⟨Nat.le_refl _, Nat.le_refl _⟩
theorem T_vi {C : String} {index d2 nL2 b : Nat} {y2 : MethodName} {cc2 : ByteArray} {ret2 : Option FieldType} {As : List Value} {x : Int32} (hrec : Rc X σ b C) (hC : Con X l y2 cc2 nL2 ret2 d2 (.ref b :: As) σ (Ex (some (.int x)) u)) (h1 : Cond.methodLink y.cls index y2 ∈ tb) (h2 : Cond.instanceMethod y2 ∈ tb) (h3 : Cond.selects C y2 y2 ∈ tb) (h4 : Cond.initialized C ∈ tb) (h5 : Cond.code y2 cc2 nL2 ret2 ∈ tb) (hyC : y2.cls = C)
    (hde : y2.cls ≠ "java/lang/invoke/MethodHandle" ∧ y2.cls ≠ "java/lang/invoke/VarHandle" ∧ (parseMethodDescriptor y2.desc).map (fun d => d.parameters.length) = some As.length) (hd2 : d2 + 1 ≤ d) (hn2 : nL2 ≤ 17) (hst : st = As.reverse ++ .ref b :: rest) (hW : (rest.map fun v => v.category).sum ≤ 8) (hdg : decode cc pc = .ok (.invokevirtual index, 3))
    (k : T X l y cc nL ret d (pc + 3) ls (.int x :: rest) u Q) : T X l y cc nL ret d pc ls st σ Q :=
  T_callV hrec hC h1 h2 h3 h4 h5 hyC hde hd2 hn2 hst hW hdg (by rintro _ _ ⟨rfl, rfl⟩; exact k)
theorem T_vv {C : String} {index d2 nL2 b : Nat} {y2 : MethodName} {cc2 : ByteArray} {ret2 : Option FieldType} {As : List Value} (hrec : Rc X σ b C) (hC : Con X l y2 cc2 nL2 ret2 d2 (.ref b :: As) σ (Ex none u)) (h1 : Cond.methodLink y.cls index y2 ∈ tb) (h2 : Cond.instanceMethod y2 ∈ tb) (h3 : Cond.selects C y2 y2 ∈ tb) (h4 : Cond.initialized C ∈ tb) (h5 : Cond.code y2 cc2 nL2 ret2 ∈ tb) (hyC : y2.cls = C)
    (hde : y2.cls ≠ "java/lang/invoke/MethodHandle" ∧ y2.cls ≠ "java/lang/invoke/VarHandle" ∧ (parseMethodDescriptor y2.desc).map (fun d => d.parameters.length) = some As.length) (hd2 : d2 + 1 ≤ d) (hn2 : nL2 ≤ 17) (hst : st = As.reverse ++ .ref b :: rest) (hW : (rest.map fun v => v.category).sum ≤ 8) (hdg : decode cc pc = .ok (.invokevirtual index, 3))
    (k : T X l y cc nL ret d (pc + 3) ls rest u Q) : T X l y cc nL ret d pc ls st σ Q :=
  T_callV hrec hC h1 h2 h3 h4 h5 hyC hde hd2 hn2 hst hW hdg (by rintro _ _ ⟨rfl, rfl⟩; exact k)
theorem T_callS {index d2 nL2 : Nat} {y2 : MethodName} {cc2 : ByteArray} {ret2 : Option FieldType} {As : List Value} (hC : Con X l y2 cc2 nL2 ret2 d2 As σ Qy) (h1 : Cond.methodLink y.cls index y2 ∈ tb) (h2 : Cond.static y2 ∈ tb) (h4 : Cond.initialized y2.cls ∈ tb) (h5 : Cond.code y2 cc2 nL2 ret2 ∈ tb)
    (hde : y2.cls ≠ "java/lang/invoke/MethodHandle" ∧ y2.cls ≠ "java/lang/invoke/VarHandle" ∧ (parseMethodDescriptor y2.desc).map (fun d => d.parameters.length) = some As.length) (hd2 : d2 + 1 ≤ d) (hn2 : nL2 ≤ 17) (hst : st = As.reverse ++ rest) (hW : (rest.map fun v => v.category).sum ≤ 8) (hdg : decode cc pc = .ok (.invokestatic index, 3))
    (kk : ∀ r u, Qy r u → T X l y cc nL ret d (pc + 3) ls (r.toList ++ rest) u Q) : T X l y cc nL ret d pc ls st σ Q := by
  refine T_call (rest := rest) (a := As.toArray) (fun p e s m args below meth c H locs lsA hF hP hS hl => ?_) kk
  have hts := hF.2.2.2.2.2.2.1
  have hG : GoodIn tb (Cond.code y2 cc2 nL2 ret2 :: tb) := by
    intro w hw
    refine tb_good w ?_
    rcases List.mem_cons.mp hw with rfl | hw
    · exact h5
    · exact hw
  exact va_runS (nL := nL) (Ts := tb) (own := y.cls) (As := As) (rest := rest) ⟨hF.1, hF.2.1, hF.2.2.1, hF.2.2.2.2.2.1, hts⟩ hC ⟨callB_of As.length hts hG rfl rfl rfl (hts _ h4) (hts _ h1) hde ⟨hd2, by show 8 + (nL2 + 11) + 36 * d2 ≤ 36 * d; omega⟩, hts _ h2⟩
    ⟨con_blind, fun U hU hW1 => ⟨rfl, by rw [hU]; exact hP, KX.warm hW1 hF.2.2.2.2.2.2.2.1, SX.moved (locs := locs) hW1.alike (by rw [hU]; exact hS) hF.2.2.2.2.2.2.2.2⟩⟩ rfl rfl hl.1 hst (lv_room hW) hdg ⟨Nat.le_refl _, Nat.le_refl _⟩
theorem T_si {index d2 nL2 : Nat} {y2 : MethodName} {cc2 : ByteArray} {ret2 : Option FieldType} {As : List Value} {x : Int32} (hC : Con X l y2 cc2 nL2 ret2 d2 As σ (Ex (some (.int x)) u)) (h1 : Cond.methodLink y.cls index y2 ∈ tb) (h2 : Cond.static y2 ∈ tb) (h4 : Cond.initialized y2.cls ∈ tb) (h5 : Cond.code y2 cc2 nL2 ret2 ∈ tb)
    (hde : y2.cls ≠ "java/lang/invoke/MethodHandle" ∧ y2.cls ≠ "java/lang/invoke/VarHandle" ∧ (parseMethodDescriptor y2.desc).map (fun d => d.parameters.length) = some As.length) (hd2 : d2 + 1 ≤ d) (hn2 : nL2 ≤ 17) (hst : st = As.reverse ++ rest) (hW : (rest.map fun v => v.category).sum ≤ 8) (hdg : decode cc pc = .ok (.invokestatic index, 3))
    (k : T X l y cc nL ret d (pc + 3) ls (.int x :: rest) u Q) : T X l y cc nL ret d pc ls st σ Q :=
  T_callS hC h1 h2 h4 h5 hde hd2 hn2 hst hW hdg (by rintro _ _ ⟨rfl, rfl⟩; exact k)
theorem T_sv {index d2 nL2 : Nat} {y2 : MethodName} {cc2 : ByteArray} {ret2 : Option FieldType} {As : List Value} (hC : Con X l y2 cc2 nL2 ret2 d2 As σ (Ex none u)) (h1 : Cond.methodLink y.cls index y2 ∈ tb) (h2 : Cond.static y2 ∈ tb) (h4 : Cond.initialized y2.cls ∈ tb) (h5 : Cond.code y2 cc2 nL2 ret2 ∈ tb)
    (hde : y2.cls ≠ "java/lang/invoke/MethodHandle" ∧ y2.cls ≠ "java/lang/invoke/VarHandle" ∧ (parseMethodDescriptor y2.desc).map (fun d => d.parameters.length) = some As.length) (hd2 : d2 + 1 ≤ d) (hn2 : nL2 ≤ 17) (hst : st = As.reverse ++ rest) (hW : (rest.map fun v => v.category).sum ≤ 8) (hdg : decode cc pc = .ok (.invokestatic index, 3))
    (k : T X l y cc nL ret d (pc + 3) ls rest u Q) : T X l y cc nL ret d pc ls st σ Q :=
  T_callS hC h1 h2 h4 h5 hde hd2 hn2 hst hW hdg (by rintro _ _ ⟨rfl, rfl⟩; exact k)
/-- a private static method of the nest's host -/
theorem T_callSN {index d2 nL2 : Nat} {y2 : MethodName} {cc2 : ByteArray} {ret2 : Option FieldType} {As : List Value} {x : Int32} (hC : Con X l y2 cc2 nL2 ret2 d2 As σ (Ex (some (.int x)) u)) (h1 : ∀ s, KX X s → va_Nw (.methodLinkNest y.cls index y2 RX3) s) (h2 : Cond.static y2 ∈ tb) (h4 : Cond.initialized y2.cls ∈ tb) (h5 : Cond.code y2 cc2 nL2 ret2 ∈ tb)
    (hde : y2.cls ≠ "java/lang/invoke/MethodHandle" ∧ y2.cls ≠ "java/lang/invoke/VarHandle" ∧ (parseMethodDescriptor y2.desc).map (fun d => d.parameters.length) = some As.length) (hd2 : d2 + 1 ≤ d) (hn2 : nL2 ≤ 17) (hst : st = As.reverse ++ rest) (hW : (rest.map fun v => v.category).sum ≤ 8) (hdg : decode cc pc = .ok (.invokestatic index, 3))
    (k : T X l y cc nL ret d (pc + 3) ls (.int x :: rest) u Q) : T X l y cc nL ret d pc ls st σ Q := by
  refine T_call (rest := rest) (a := As.toArray) (Qy := Ex (some (.int x)) u) (fun p e s m args below meth c H locs lsA hF hP hS hl => ?_) (by rintro _ _ ⟨rfl, rfl⟩; exact k)
  have hts := hF.2.2.2.2.2.2.1
  have hG : GoodIn tb (Cond.code y2 cc2 nL2 ret2 :: tb) := by
    intro w hw
    refine tb_good w ?_
    rcases List.mem_cons.mp hw with rfl | hw
    · exact h5
    · exact hw
  exact va_runSN (nL := nL) (Ts := tb) (own := y.cls) (As := As) (rest := rest) ⟨hF.1, hF.2.1, hF.2.2.1, hF.2.2.2.2.2.1, hts⟩ hC ⟨va_cnB As.length hts hG rfl rfl rfl (h1 s hF.2.2.2.2.2.2.2.1) (hts _ h4) hde ⟨hd2, by show 8 + (nL2 + 11) + 36 * d2 ≤ 36 * d; omega⟩, hts _ h2, trivial⟩
    ⟨con_blind, fun U hU hW1 => ⟨rfl, by rw [hU]; exact hP, KX.warm hW1 hF.2.2.2.2.2.2.2.1, SX.moved (locs := locs) hW1.alike (by rw [hU]; exact hS) hF.2.2.2.2.2.2.2.2⟩⟩ rfl rfl hl.1 hst (lv_room hW) hdg ⟨Nat.le_refl _, Nat.le_refl _⟩
end CALLS
/-! ===== loops: n steps of f ===== -/
def itN {α : Type} (f : Nat → α → α) (a : α) : Nat → α
  | 0 => a
  | n + 1 => f n (itN f a n)
/-- a counting loop: P k x = what stands at its head with the counter k and the rest x -/
theorem loopN {α : Type} (P : Nat → α → Prop) (f : Nat → α → α) (a : α) (N : Nat) (hs : ∀ k, k < N → P (k + 1) (f k (itN f a k)) → P k (itN f a k)) (hx : P N (itN f a N)) : P 0 a := by
  have h : ∀ n k, k + n = N → P k (itN f a k) := by
    intro n
    induction n with
    | zero => intro k hk; have : k = N := by omega
              subst this; exact hx
    | succ n ih => intro k hk; exact hs k (by omega) (ih (k + 1) (by omega))
  exact h N 0 (by omega)
end
section
/-! ===== rows over one region (its cells' contents are h), rows that keep numbers as nI ===== -/
section FOC
variable {X : Cx} {l : Launch} {y : MethodName} {cc : ByteArray} {nL : Nat} {ret : Option FieldType} {d pc : Nat} {ls : List (Option Value)} {st : List Value} {σ σ0 : Hp} {h : Rg} {Q : Option Value → Hp → Prop}
theorem iincN (j : Nat) : nI j + Int32.ofInt 1 = nI (j + 1) := (nI_succ j).symm
theorem T_iaddN {a b : Nat} (hd : decode cc pc = .ok (.iadd, 1)) (k : T X l y cc nL ret d (pc + 1) ls (.int (nI (a + b)) :: st) σ Q) : T X l y cc nL ret d pc ls (.int (nI b) :: .int (nI a) :: st) σ Q := T_iadd hd (by rw [nI_add]; exact k)
theorem T_imulN {a b : Nat} (hd : decode cc pc = .ok (.imul, 1)) (k : T X l y cc nL ret d (pc + 1) ls (.int (nI (a * b)) :: st) σ Q) : T X l y cc nL ret d pc ls (.int (nI b) :: .int (nI a) :: st) σ Q := T_imul hd (by rw [pk_mul]; exact k)
theorem T_iincN0 {t : List (Option Value)} {j : Nat} (hd : decode cc pc = .ok (.iinc 0 1, 3)) (hk : okS (some (.int (nI j)) :: t) 0 = true) (hn : 0 < nL) (k : T X l y cc nL ret d (pc + 3) (some (.int (nI (j + 1))) :: t) st σ Q) : T X l y cc nL ret d pc (some (.int (nI j)) :: t) st σ Q := T_iinc0 hd (iincN j) hk hn k
theorem T_iincN1 {l0 : Option Value} {t : List (Option Value)} {j : Nat} (hd : decode cc pc = .ok (.iinc 1 1, 3)) (hk : okS (l0 :: some (.int (nI j)) :: t) 1 = true) (hn : 1 < nL) (k : T X l y cc nL ret d (pc + 3) (l0 :: some (.int (nI (j + 1))) :: t) st σ Q) : T X l y cc nL ret d pc (l0 :: some (.int (nI j)) :: t) st σ Q := T_iinc1 hd (iincN j) hk hn k
theorem T_iincN2 {l0 l1 : Option Value} {t : List (Option Value)} {j : Nat} (hd : decode cc pc = .ok (.iinc 2 1, 3)) (hk : okS (l0 :: l1 :: some (.int (nI j)) :: t) 2 = true) (hn : 2 < nL) (k : T X l y cc nL ret d (pc + 3) (l0 :: l1 :: some (.int (nI (j + 1))) :: t) st σ Q) : T X l y cc nL ret d pc (l0 :: l1 :: some (.int (nI j)) :: t) st σ Q := T_iinc2 hd (iincN j) hk hn k
theorem T_iincN3 {l0 l1 l2 : Option Value} {t : List (Option Value)} {j : Nat} (hd : decode cc pc = .ok (.iinc 3 1, 3)) (hk : okS (l0 :: l1 :: l2 :: some (.int (nI j)) :: t) 3 = true) (hn : 3 < nL) (k : T X l y cc nL ret d (pc + 3) (l0 :: l1 :: l2 :: some (.int (nI (j + 1))) :: t) st σ Q) : T X l y cc nL ret d pc (l0 :: l1 :: l2 :: some (.int (nI j)) :: t) st σ Q := T_iinc3 hd (iincN j) hk hn k
theorem T_iincN4 {l0 l1 l2 l3 : Option Value} {t : List (Option Value)} {j : Nat} (hd : decode cc pc = .ok (.iinc 4 1, 3)) (hk : okS (l0 :: l1 :: l2 :: l3 :: some (.int (nI j)) :: t) 4 = true) (hn : 4 < nL) (k : T X l y cc nL ret d (pc + 3) (l0 :: l1 :: l2 :: l3 :: some (.int (nI (j + 1))) :: t) st σ Q) : T X l y cc nL ret d pc (l0 :: l1 :: l2 :: l3 :: some (.int (nI j)) :: t) st σ Q := T_iinc4 hd (iincN j) hk hn k
theorem T_iincN5 {l0 l1 l2 l3 l4 : Option Value} {t : List (Option Value)} {j : Nat} (hd : decode cc pc = .ok (.iinc 5 1, 3)) (hk : okS (l0 :: l1 :: l2 :: l3 :: l4 :: some (.int (nI j)) :: t) 5 = true) (hn : 5 < nL) (k : T X l y cc nL ret d (pc + 3) (l0 :: l1 :: l2 :: l3 :: l4 :: some (.int (nI (j + 1))) :: t) st σ Q) : T X l y cc nL ret d pc (l0 :: l1 :: l2 :: l3 :: l4 :: some (.int (nI j)) :: t) st σ Q := T_iinc5 hd (iincN j) hk hn k
theorem T_iincN6 {l0 l1 l2 l3 l4 l5 : Option Value} {t : List (Option Value)} {j : Nat} (hd : decode cc pc = .ok (.iinc 6 1, 3)) (hk : okS (l0 :: l1 :: l2 :: l3 :: l4 :: l5 :: some (.int (nI j)) :: t) 6 = true) (hn : 6 < nL) (k : T X l y cc nL ret d (pc + 3) (l0 :: l1 :: l2 :: l3 :: l4 :: l5 :: some (.int (nI (j + 1))) :: t) st σ Q) : T X l y cc nL ret d pc (l0 :: l1 :: l2 :: l3 :: l4 :: l5 :: some (.int (nI j)) :: t) st σ Q := T_iinc6 hd (iincN j) hk hn k
theorem T_iincN7 {l0 l1 l2 l3 l4 l5 l6 : Option Value} {t : List (Option Value)} {j : Nat} (hd : decode cc pc = .ok (.iinc 7 1, 3)) (hk : okS (l0 :: l1 :: l2 :: l3 :: l4 :: l5 :: l6 :: some (.int (nI j)) :: t) 7 = true) (hn : 7 < nL) (k : T X l y cc nL ret d (pc + 3) (l0 :: l1 :: l2 :: l3 :: l4 :: l5 :: l6 :: some (.int (nI (j + 1))) :: t) st σ Q) : T X l y cc nL ret d pc (l0 :: l1 :: l2 :: l3 :: l4 :: l5 :: l6 :: some (.int (nI j)) :: t) st σ Q := T_iinc7 hd (iincN j) hk hn k
theorem T_iincN8 {l0 l1 l2 l3 l4 l5 l6 l7 : Option Value} {t : List (Option Value)} {j : Nat} (hd : decode cc pc = .ok (.iinc 8 1, 3)) (hk : okS (l0 :: l1 :: l2 :: l3 :: l4 :: l5 :: l6 :: l7 :: some (.int (nI j)) :: t) 8 = true) (hn : 8 < nL) (k : T X l y cc nL ret d (pc + 3) (l0 :: l1 :: l2 :: l3 :: l4 :: l5 :: l6 :: l7 :: some (.int (nI (j + 1))) :: t) st σ Q) : T X l y cc nL ret d pc (l0 :: l1 :: l2 :: l3 :: l4 :: l5 :: l6 :: l7 :: some (.int (nI j)) :: t) st σ Q := T_iinc8 hd (iincN j) hk hn k
theorem T_iincN9 {l0 l1 l2 l3 l4 l5 l6 l7 l8 : Option Value} {t : List (Option Value)} {j : Nat} (hd : decode cc pc = .ok (.iinc 9 1, 3)) (hk : okS (l0 :: l1 :: l2 :: l3 :: l4 :: l5 :: l6 :: l7 :: l8 :: some (.int (nI j)) :: t) 9 = true) (hn : 9 < nL) (k : T X l y cc nL ret d (pc + 3) (l0 :: l1 :: l2 :: l3 :: l4 :: l5 :: l6 :: l7 :: l8 :: some (.int (nI (j + 1))) :: t) st σ Q) : T X l y cc nL ret d pc (l0 :: l1 :: l2 :: l3 :: l4 :: l5 :: l6 :: l7 :: l8 :: some (.int (nI j)) :: t) st σ Q := T_iinc9 hd (iincN j) hk hn k
def fl0 (X : Cx) (r : Nat) (g : Nat → Int32) : List Value := [.ref (adr X 1 0 0), .ref (adr X 1 1 0), .ref (adr X 2 0 0), .ref (adr X 3 0 0), .ref (adr X 0 r 1), .ref (adr X 0 r 2), .ref (adr X 0 r 3), .ref (adr X 0 r 4), .int (g 8), .ref (adr X 0 r 5)]
theorem T_g0 {r index : Nat} {v : Value} (hL : Lv X 0 r) (f : Nat) (hf : f < 10) (hlink : Cond.fieldLink y.cls index (TX3 f).1 (TX3 f).2.1 (TX3 f).2.2.1 ∈ tb) (hv : (fl0 X r (σ 0 r 0))[f]? = some v) (hd : decode cc pc = .ok (.getfield index, 3)) (k : T X l y cc nL ret d (pc + 3) ls (v :: st) σ Q) : T X l y cc nL ret d pc ls (.ref (adr X 0 r 0) :: st) σ Q :=
  T_get (fs := fl0 X r (σ 0 r 0)) rfl (hL 0 (by decide)) rfl rfl inX3 f hf hlink hv hd k
theorem T_g0F {r index : Nat} {v : Value} (hL : Lv X 0 r) (f : Nat) (hf : f < 10) (hlink : Cond.fieldLink y.cls index (TX3 f).1 (TX3 f).2.1 (TX3 f).2.2.1 ∈ tb) (hv : (fl0 X r (h 0))[f]? = some v) (hd : decode cc pc = .ok (.getfield index, 3)) (k : T X l y cc nL ret d (pc + 3) ls (v :: st) (setR σ0 0 r h) Q) : T X l y cc nL ret d pc ls (.ref (adr X 0 r 0) :: st) (setR σ0 0 r h) Q :=
  T_get (g := h 0) (fs := fl0 X r (h 0)) (by rw [setR_self]) (hL 0 (by decide)) rfl rfl inX3 f hf hlink hv hd k
theorem T_p0 {r index : Nat} {x : Int32} {σ' : Hp} (hL : Lv X 0 r) (f : Nat) (hf : f < 10) (hfin : (TX3 f).2.2.2 = false) (hI : tyX3 f = .int) (hlink : Cond.fieldLink y.cls index (TX3 f).1 (TX3 f).2.1 (TX3 f).2.2.1 ∈ tb) (hfl : f < 10) (hset : fl0 X r (upd (σ 0 r 0) f x) = (fl0 X r (σ 0 r 0)).set f (.int x)) (hs : setR σ 0 r (up2 (σ 0 r) 0 f x) = σ') (hd : decode cc pc = .ok (.putfield index, 3)) (k : T X l y cc nL ret d (pc + 3) ls st σ' Q) : T X l y cc nL ret d pc ls (.int x :: .ref (adr X 0 r 0) :: st) σ Q :=
  T_put (fs := fl0 X r (σ 0 r 0)) rfl (hL 0 (by decide)) rfl rfl inX3 tyX3 tyX3_ok nmX3 f hf hfin hI hlink hfl (congrArg (fun z => Sum.inr (3, z)) hset) hs hd k
theorem T_p0F {r index : Nat} {x : Int32} (hL : Lv X 0 r) (f : Nat) (hf : f < 10) (hfin : (TX3 f).2.2.2 = false) (hI : tyX3 f = .int) (hlink : Cond.fieldLink y.cls index (TX3 f).1 (TX3 f).2.1 (TX3 f).2.2.1 ∈ tb) (hfl : f < 10) (hset : fl0 X r (upd (h 0) f x) = (fl0 X r (h 0)).set f (.int x)) (hd : decode cc pc = .ok (.putfield index, 3)) (k : T X l y cc nL ret d (pc + 3) ls st (setR σ0 0 r (up2 h 0 f x)) Q) : T X l y cc nL ret d pc ls (.int x :: .ref (adr X 0 r 0) :: st) (setR σ0 0 r h) Q :=
  T_put (h := h) (fs := fl0 X r (h 0)) (setR_self σ0 0 r h) (hL 0 (by decide)) rfl rfl inX3 tyX3 tyX3_ok nmX3 f hf hfin hI hlink hfl (congrArg (fun z => Sum.inr (3, z)) hset) (setR_setR σ0 0 r h _) hd k
def fl1 (X : Cx) (r : Nat) (g : Nat → Int32) : List Value := [.int (g 0), .int (g 1), .int (g 2), .ref (adr X 1 r 1), .ref (adr X 1 r 2), .ref (adr X 1 r 3), .ref (adr X 1 r 4), .ref (adr X 1 r 5), .ref (adr X 1 r 6), .ref (adr X 1 r 7), .ref (adr X 1 r 8), .ref (adr X 1 r 9), .ref (adr X 1 r 10)]
theorem T_g1 {r index : Nat} {v : Value} (hL : Lv X 1 r) (f : Nat) (hf : f < 13) (hlink : Cond.fieldLink y.cls index (TX1 f).1 (TX1 f).2.1 (TX1 f).2.2.1 ∈ tb) (hv : (fl1 X r (σ 1 r 0))[f]? = some v) (hd : decode cc pc = .ok (.getfield index, 3)) (k : T X l y cc nL ret d (pc + 3) ls (v :: st) σ Q) : T X l y cc nL ret d pc ls (.ref (adr X 1 r 0) :: st) σ Q :=
  T_get (fs := fl1 X r (σ 1 r 0)) rfl (hL 0 (by decide)) rfl rfl inX1 f hf hlink hv hd k
theorem T_g1F {r index : Nat} {v : Value} (hL : Lv X 1 r) (f : Nat) (hf : f < 13) (hlink : Cond.fieldLink y.cls index (TX1 f).1 (TX1 f).2.1 (TX1 f).2.2.1 ∈ tb) (hv : (fl1 X r (h 0))[f]? = some v) (hd : decode cc pc = .ok (.getfield index, 3)) (k : T X l y cc nL ret d (pc + 3) ls (v :: st) (setR σ0 1 r h) Q) : T X l y cc nL ret d pc ls (.ref (adr X 1 r 0) :: st) (setR σ0 1 r h) Q :=
  T_get (g := h 0) (fs := fl1 X r (h 0)) (by rw [setR_self]) (hL 0 (by decide)) rfl rfl inX1 f hf hlink hv hd k
theorem T_p1 {r index : Nat} {x : Int32} {σ' : Hp} (hL : Lv X 1 r) (f : Nat) (hf : f < 13) (hfin : (TX1 f).2.2.2 = false) (hI : tyX1 f = .int) (hlink : Cond.fieldLink y.cls index (TX1 f).1 (TX1 f).2.1 (TX1 f).2.2.1 ∈ tb) (hfl : f < 13) (hset : fl1 X r (upd (σ 1 r 0) f x) = (fl1 X r (σ 1 r 0)).set f (.int x)) (hs : setR σ 1 r (up2 (σ 1 r) 0 f x) = σ') (hd : decode cc pc = .ok (.putfield index, 3)) (k : T X l y cc nL ret d (pc + 3) ls st σ' Q) : T X l y cc nL ret d pc ls (.int x :: .ref (adr X 1 r 0) :: st) σ Q :=
  T_put (fs := fl1 X r (σ 1 r 0)) rfl (hL 0 (by decide)) rfl rfl inX1 tyX1 tyX1_ok nmX1 f hf hfin hI hlink hfl (congrArg (fun z => Sum.inr (1, z)) hset) hs hd k
theorem T_p1F {r index : Nat} {x : Int32} (hL : Lv X 1 r) (f : Nat) (hf : f < 13) (hfin : (TX1 f).2.2.2 = false) (hI : tyX1 f = .int) (hlink : Cond.fieldLink y.cls index (TX1 f).1 (TX1 f).2.1 (TX1 f).2.2.1 ∈ tb) (hfl : f < 13) (hset : fl1 X r (upd (h 0) f x) = (fl1 X r (h 0)).set f (.int x)) (hd : decode cc pc = .ok (.putfield index, 3)) (k : T X l y cc nL ret d (pc + 3) ls st (setR σ0 1 r (up2 h 0 f x)) Q) : T X l y cc nL ret d pc ls (.int x :: .ref (adr X 1 r 0) :: st) (setR σ0 1 r h) Q :=
  T_put (h := h) (fs := fl1 X r (h 0)) (setR_self σ0 1 r h) (hL 0 (by decide)) rfl rfl inX1 tyX1 tyX1_ok nmX1 f hf hfin hI hlink hfl (congrArg (fun z => Sum.inr (1, z)) hset) (setR_setR σ0 1 r h _) hd k
def fl2 (X : Cx) (r : Nat) (g : Nat → Int32) : List Value := [.ref (adr X 2 r 1), .int (g 1), .int (g 2)]
theorem T_g2 {r index : Nat} {v : Value} (hL : Lv X 2 r) (f : Nat) (hf : f < 3) (hlink : Cond.fieldLink y.cls index (TX0 f).1 (TX0 f).2.1 (TX0 f).2.2.1 ∈ tb) (hv : (fl2 X r (σ 2 r 0))[f]? = some v) (hd : decode cc pc = .ok (.getfield index, 3)) (k : T X l y cc nL ret d (pc + 3) ls (v :: st) σ Q) : T X l y cc nL ret d pc ls (.ref (adr X 2 r 0) :: st) σ Q :=
  T_get (fs := fl2 X r (σ 2 r 0)) rfl (hL 0 (by decide)) rfl rfl inX0 f hf hlink hv hd k
theorem T_g2F {r index : Nat} {v : Value} (hL : Lv X 2 r) (f : Nat) (hf : f < 3) (hlink : Cond.fieldLink y.cls index (TX0 f).1 (TX0 f).2.1 (TX0 f).2.2.1 ∈ tb) (hv : (fl2 X r (h 0))[f]? = some v) (hd : decode cc pc = .ok (.getfield index, 3)) (k : T X l y cc nL ret d (pc + 3) ls (v :: st) (setR σ0 2 r h) Q) : T X l y cc nL ret d pc ls (.ref (adr X 2 r 0) :: st) (setR σ0 2 r h) Q :=
  T_get (g := h 0) (fs := fl2 X r (h 0)) (by rw [setR_self]) (hL 0 (by decide)) rfl rfl inX0 f hf hlink hv hd k
theorem T_p2 {r index : Nat} {x : Int32} {σ' : Hp} (hL : Lv X 2 r) (f : Nat) (hf : f < 3) (hfin : (TX0 f).2.2.2 = false) (hI : tyX0 f = .int) (hlink : Cond.fieldLink y.cls index (TX0 f).1 (TX0 f).2.1 (TX0 f).2.2.1 ∈ tb) (hfl : f < 3) (hset : fl2 X r (upd (σ 2 r 0) f x) = (fl2 X r (σ 2 r 0)).set f (.int x)) (hs : setR σ 2 r (up2 (σ 2 r) 0 f x) = σ') (hd : decode cc pc = .ok (.putfield index, 3)) (k : T X l y cc nL ret d (pc + 3) ls st σ' Q) : T X l y cc nL ret d pc ls (.int x :: .ref (adr X 2 r 0) :: st) σ Q :=
  T_put (fs := fl2 X r (σ 2 r 0)) rfl (hL 0 (by decide)) rfl rfl inX0 tyX0 tyX0_ok nmX0 f hf hfin hI hlink hfl (congrArg (fun z => Sum.inr (0, z)) hset) hs hd k
theorem T_p2F {r index : Nat} {x : Int32} (hL : Lv X 2 r) (f : Nat) (hf : f < 3) (hfin : (TX0 f).2.2.2 = false) (hI : tyX0 f = .int) (hlink : Cond.fieldLink y.cls index (TX0 f).1 (TX0 f).2.1 (TX0 f).2.2.1 ∈ tb) (hfl : f < 3) (hset : fl2 X r (upd (h 0) f x) = (fl2 X r (h 0)).set f (.int x)) (hd : decode cc pc = .ok (.putfield index, 3)) (k : T X l y cc nL ret d (pc + 3) ls st (setR σ0 2 r (up2 h 0 f x)) Q) : T X l y cc nL ret d pc ls (.int x :: .ref (adr X 2 r 0) :: st) (setR σ0 2 r h) Q :=
  T_put (h := h) (fs := fl2 X r (h 0)) (setR_self σ0 2 r h) (hL 0 (by decide)) rfl rfl inX0 tyX0 tyX0_ok nmX0 f hf hfin hI hlink hfl (congrArg (fun z => Sum.inr (0, z)) hset) (setR_setR σ0 2 r h _) hd k
def fl3 (X : Cx) (r : Nat) (g : Nat → Int32) : List Value := [.ref (adr X 3 r 1), .int (g 1), .ref (adr X 3 r 2), .ref (adr X 3 r 3), .ref (adr X 3 r 4), .int (g 5)]
theorem T_g3 {r index : Nat} {v : Value} (hL : Lv X 3 r) (f : Nat) (hf : f < 6) (hlink : Cond.fieldLink y.cls index (TX2 f).1 (TX2 f).2.1 (TX2 f).2.2.1 ∈ tb) (hv : (fl3 X r (σ 3 r 0))[f]? = some v) (hd : decode cc pc = .ok (.getfield index, 3)) (k : T X l y cc nL ret d (pc + 3) ls (v :: st) σ Q) : T X l y cc nL ret d pc ls (.ref (adr X 3 r 0) :: st) σ Q :=
  T_get (fs := fl3 X r (σ 3 r 0)) rfl (hL 0 (by decide)) rfl rfl inX2 f hf hlink hv hd k
theorem T_g3F {r index : Nat} {v : Value} (hL : Lv X 3 r) (f : Nat) (hf : f < 6) (hlink : Cond.fieldLink y.cls index (TX2 f).1 (TX2 f).2.1 (TX2 f).2.2.1 ∈ tb) (hv : (fl3 X r (h 0))[f]? = some v) (hd : decode cc pc = .ok (.getfield index, 3)) (k : T X l y cc nL ret d (pc + 3) ls (v :: st) (setR σ0 3 r h) Q) : T X l y cc nL ret d pc ls (.ref (adr X 3 r 0) :: st) (setR σ0 3 r h) Q :=
  T_get (g := h 0) (fs := fl3 X r (h 0)) (by rw [setR_self]) (hL 0 (by decide)) rfl rfl inX2 f hf hlink hv hd k
theorem T_p3 {r index : Nat} {x : Int32} {σ' : Hp} (hL : Lv X 3 r) (f : Nat) (hf : f < 6) (hfin : (TX2 f).2.2.2 = false) (hI : tyX2 f = .int) (hlink : Cond.fieldLink y.cls index (TX2 f).1 (TX2 f).2.1 (TX2 f).2.2.1 ∈ tb) (hfl : f < 6) (hset : fl3 X r (upd (σ 3 r 0) f x) = (fl3 X r (σ 3 r 0)).set f (.int x)) (hs : setR σ 3 r (up2 (σ 3 r) 0 f x) = σ') (hd : decode cc pc = .ok (.putfield index, 3)) (k : T X l y cc nL ret d (pc + 3) ls st σ' Q) : T X l y cc nL ret d pc ls (.int x :: .ref (adr X 3 r 0) :: st) σ Q :=
  T_put (fs := fl3 X r (σ 3 r 0)) rfl (hL 0 (by decide)) rfl rfl inX2 tyX2 tyX2_ok nmX2 f hf hfin hI hlink hfl (congrArg (fun z => Sum.inr (2, z)) hset) hs hd k
theorem T_p3F {r index : Nat} {x : Int32} (hL : Lv X 3 r) (f : Nat) (hf : f < 6) (hfin : (TX2 f).2.2.2 = false) (hI : tyX2 f = .int) (hlink : Cond.fieldLink y.cls index (TX2 f).1 (TX2 f).2.1 (TX2 f).2.2.1 ∈ tb) (hfl : f < 6) (hset : fl3 X r (upd (h 0) f x) = (fl3 X r (h 0)).set f (.int x)) (hd : decode cc pc = .ok (.putfield index, 3)) (k : T X l y cc nL ret d (pc + 3) ls st (setR σ0 3 r (up2 h 0 f x)) Q) : T X l y cc nL ret d pc ls (.int x :: .ref (adr X 3 r 0) :: st) (setR σ0 3 r h) Q :=
  T_put (h := h) (fs := fl3 X r (h 0)) (setR_self σ0 3 r h) (hL 0 (by decide)) rfl rfl inX2 tyX2 tyX2_ok nmX2 f hf hfin hI hlink hfl (congrArg (fun z => Sum.inr (2, z)) hset) (setR_setR σ0 3 r h _) hd k
def fl4 (X : Cx) (r : Nat) (g : Nat → Int32) : List Value := [.ref (adr X 4 r 1), .ref (adr X 4 r 2), .ref (adr X 4 r 3), .ref (adr X 4 r 4), .int (g 4), .ref (adr X 4 r 5), .ref (adr X 4 r 6), .ref (adr X 4 r 7), .int (g 8), .int (g 9), .int (g 10), .int (g 11), .int (g 12), .ref (adr X 4 r 8), .ref (adr X 4 r 9), .int (g 15), .int (g 16)]
theorem T_g4 {r index : Nat} {v : Value} (hL : Lv X 4 r) (f : Nat) (hf : f < 17) (hlink : Cond.fieldLink y.cls index (TX4 f).1 (TX4 f).2.1 (TX4 f).2.2.1 ∈ tb) (hv : (fl4 X r (σ 4 r 0))[f]? = some v) (hd : decode cc pc = .ok (.getfield index, 3)) (k : T X l y cc nL ret d (pc + 3) ls (v :: st) σ Q) : T X l y cc nL ret d pc ls (.ref (adr X 4 r 0) :: st) σ Q :=
  T_get (fs := fl4 X r (σ 4 r 0)) rfl (hL 0 (by decide)) rfl rfl inX4 f hf hlink hv hd k
theorem T_g4F {r index : Nat} {v : Value} (hL : Lv X 4 r) (f : Nat) (hf : f < 17) (hlink : Cond.fieldLink y.cls index (TX4 f).1 (TX4 f).2.1 (TX4 f).2.2.1 ∈ tb) (hv : (fl4 X r (h 0))[f]? = some v) (hd : decode cc pc = .ok (.getfield index, 3)) (k : T X l y cc nL ret d (pc + 3) ls (v :: st) (setR σ0 4 r h) Q) : T X l y cc nL ret d pc ls (.ref (adr X 4 r 0) :: st) (setR σ0 4 r h) Q :=
  T_get (g := h 0) (fs := fl4 X r (h 0)) (by rw [setR_self]) (hL 0 (by decide)) rfl rfl inX4 f hf hlink hv hd k
theorem T_p4 {r index : Nat} {x : Int32} {σ' : Hp} (hL : Lv X 4 r) (f : Nat) (hf : f < 17) (hfin : (TX4 f).2.2.2 = false) (hI : tyX4 f = .int) (hlink : Cond.fieldLink y.cls index (TX4 f).1 (TX4 f).2.1 (TX4 f).2.2.1 ∈ tb) (hfl : f < 17) (hset : fl4 X r (upd (σ 4 r 0) f x) = (fl4 X r (σ 4 r 0)).set f (.int x)) (hs : setR σ 4 r (up2 (σ 4 r) 0 f x) = σ') (hd : decode cc pc = .ok (.putfield index, 3)) (k : T X l y cc nL ret d (pc + 3) ls st σ' Q) : T X l y cc nL ret d pc ls (.int x :: .ref (adr X 4 r 0) :: st) σ Q :=
  T_put (fs := fl4 X r (σ 4 r 0)) rfl (hL 0 (by decide)) rfl rfl inX4 tyX4 tyX4_ok nmX4 f hf hfin hI hlink hfl (congrArg (fun z => Sum.inr (4, z)) hset) hs hd k
theorem T_p4F {r index : Nat} {x : Int32} (hL : Lv X 4 r) (f : Nat) (hf : f < 17) (hfin : (TX4 f).2.2.2 = false) (hI : tyX4 f = .int) (hlink : Cond.fieldLink y.cls index (TX4 f).1 (TX4 f).2.1 (TX4 f).2.2.1 ∈ tb) (hfl : f < 17) (hset : fl4 X r (upd (h 0) f x) = (fl4 X r (h 0)).set f (.int x)) (hd : decode cc pc = .ok (.putfield index, 3)) (k : T X l y cc nL ret d (pc + 3) ls st (setR σ0 4 r (up2 h 0 f x)) Q) : T X l y cc nL ret d pc ls (.int x :: .ref (adr X 4 r 0) :: st) (setR σ0 4 r h) Q :=
  T_put (h := h) (fs := fl4 X r (h 0)) (setR_self σ0 4 r h) (hL 0 (by decide)) rfl rfl inX4 tyX4 tyX4_ok nmX4 f hf hfin hI hlink hfl (congrArg (fun z => Sum.inr (4, z)) hset) (setR_setR σ0 4 r h _) hd k
theorem T_ialdF {K r k n : Nat} {i : Int32} (hid : (K, r, k) ∈ ids X) (hc : cel X (h k) K r k = arI X 0 n (h k)) (hn : n < 2 ^ 31) (j : Nat) (hj : j < n) (hi : i = nI j) (hd : decode cc pc = .ok (.iaload, 1)) (kk : T X l y cc nL ret d (pc + 1) ls (.int (h k j) :: st) (setR σ0 K r h) Q) : T X l y cc nL ret d pc ls (.int i :: .ref (adr X K r k) :: st) (setR σ0 K r h) Q :=
  T_iald (g := h k) (by rw [setR_self]) hid hc hn j hj hi hd kk
theorem T_caldF {K r k n : Nat} {i : Int32} (hid : (K, r, k) ∈ ids X) (hc : cel X (h k) K r k = arI X 1 n (h k)) (hn : n < 2 ^ 31) (j : Nat) (hj : j < n) (hi : i = nI j) (hd : decode cc pc = .ok (.caload, 1)) (kk : T X l y cc nL ret d (pc + 1) ls (.int (h k j) :: st) (setR σ0 K r h) Q) : T X l y cc nL ret d pc ls (.int i :: .ref (adr X K r k) :: st) (setR σ0 K r h) Q :=
  T_cald (g := h k) (by rw [setR_self]) hid hc hn j hj hi hd kk
theorem T_zaldF {K r k n : Nat} {i : Int32} (hid : (K, r, k) ∈ ids X) (hc : cel X (h k) K r k = arI X 2 n (h k)) (hn : n < 2 ^ 31) (j : Nat) (hj : j < n) (hi : i = nI j) (hd : decode cc pc = .ok (.baload, 1)) (kk : T X l y cc nL ret d (pc + 1) ls (.int (h k j) :: st) (setR σ0 K r h) Q) : T X l y cc nL ret d pc ls (.int i :: .ref (adr X K r k) :: st) (setR σ0 K r h) Q :=
  T_zald (g := h k) (by rw [setR_self]) hid hc hn j hj hi hd kk
theorem T_iastF {K r k n : Nat} {i x : Int32} (hid : (K, r, k) ∈ ids X) (hc : ∀ g : Nat → Int32, cel X g K r k = arI X 0 n g) (hn : n < 2 ^ 31) (j : Nat) (hj : j < n) (hi : i = nI j) (hd : decode cc pc = .ok (.iastore, 1)) (kk : T X l y cc nL ret d (pc + 1) ls st (setR σ0 K r (up2 h k j x)) Q) : T X l y cc nL ret d pc ls (.int x :: .int i :: .ref (adr X K r k) :: st) (setR σ0 K r h) Q :=
  T_iast (h := h) (setR_self σ0 K r h) hid hc hn j hj hi (setR_setR σ0 K r h _) hd kk
theorem T_castF {K r k n : Nat} {i x : Int32} (hid : (K, r, k) ∈ ids X) (hc : ∀ g : Nat → Int32, cel X g K r k = arI X 1 n g) (hn : n < 2 ^ 31) (j : Nat) (hj : j < n) (hi : i = nI j) (hd : decode cc pc = .ok (.castore, 1)) (kk : T X l y cc nL ret d (pc + 1) ls st (setR σ0 K r (up2 h k j (vp_nar .char x))) Q) : T X l y cc nL ret d pc ls (.int x :: .int i :: .ref (adr X K r k) :: st) (setR σ0 K r h) Q :=
  T_cast (h := h) (setR_self σ0 K r h) hid hc hn j hj hi (setR_setR σ0 K r h _) hd kk
theorem T_zastF {K r k n : Nat} {i x : Int32} (hid : (K, r, k) ∈ ids X) (hc : ∀ g : Nat → Int32, cel X g K r k = arI X 2 n g) (hn : n < 2 ^ 31) (j : Nat) (hj : j < n) (hi : i = nI j) (hd : decode cc pc = .ok (.bastore, 1)) (kk : T X l y cc nL ret d (pc + 1) ls st (setR σ0 K r (up2 h k j (vp_nar .boolean x))) Q) : T X l y cc nL ret d pc ls (.int x :: .int i :: .ref (adr X K r k) :: st) (setR σ0 K r h) Q :=
  T_zast (h := h) (setR_self σ0 K r h) hid hc hn j hj hi (setR_setR σ0 K r h _) hd kk
end FOC
end
section
/-! ===== String constants, statics; the other ledger ===== -/
section STRS
variable {X : Cx} {l : Launch} {y : MethodName} {cc : ByteArray} {nL : Nat} {ret : Option FieldType} {d pc : Nat} {ls : List (Option Value)} {st : List Value} {σ σ0 : Hp} {h : Rg} {Q : Option Value → Hp → Prop}
abbrev sA (X : Cx) (i : Nat) : Nat := X.2.2.2.2.1 i
abbrev sV (X : Cx) (i : Nat) : Nat := X.2.2.2.2.2 i
/-- the bytes of the constants "copies" and "bounds" -/
def sB (i j : Nat) : Int32 := (([[99, 111, 112, 105, 101, 115], [98, 111, 117, 110, 100, 115]] : List (List Int32)).getD i []).getD j 0
theorem T_ldcS {index q : Nat} {tx : String} (hZ : ∀ s, KX X s → vk_R y.cls index tx q s) (hd : decode cc pc = .ok (.ldc index, 2)) (k : T X l y cc nL ret d (pc + 2) ls (.ref q :: st) σ Q) : T X l y cc nL ret d pc ls st σ Q := by
  intro p e s m args below meth c H locs lsA hF hP hS hl
  exact va_ldcS hF.1 hF.2.1 hF.2.2.2.2.2.1 (hZ s hF.2.2.2.2.2.2.2.1) hd (k p e s m args below meth c H locs lsA hF hP hS hl)
theorem T_sval {i index : Nat} (hi : i < 2) (hlink : Cond.fieldLink y.cls index "java/lang/String" "value" "[B" ∈ tb) (hd : decode cc pc = .ok (.getfield index, 3)) (k : T X l y cc nL ret d (pc + 3) ls (.ref (sV X i) :: st) σ Q) : T X l y cc nL ret d pc ls (.ref (sA X i) :: st) σ Q := by
  intro p e s m args below meth c H locs lsA hF hP hS hl
  exact vk_getf hF.1 hF.2.1 (hF.2.2.2.2.2.2.2.2.2.1.1 i hi).2.2.1 hS hF.2.2.2.2.2.1 (hF.2.2.2.2.2.2.1 _ hlink) (fun _ h => h) hd (k p e s m args below meth c H locs lsA hF hP hS hl)
theorem T_scod {i index : Nat} (hi : i < 2) (hlink : Cond.fieldLink y.cls index "java/lang/String" "coder" "B" ∈ tb) (hd : decode cc pc = .ok (.getfield index, 3)) (k : T X l y cc nL ret d (pc + 3) ls (.int 0 :: st) σ Q) : T X l y cc nL ret d pc ls (.ref (sA X i) :: st) σ Q := by
  intro p e s m args below meth c H locs lsA hF hP hS hl
  exact vk_getf hF.1 hF.2.1 (hF.2.2.2.2.2.2.2.2.2.1.1 i hi).2.1 hS hF.2.2.2.2.2.1 (hF.2.2.2.2.2.2.1 _ hlink) (fun _ h => h) hd (k p e s m args below meth c H locs lsA hF hP hS hl)
theorem T_scmp {index : Nat} (hlink : Cond.fieldLink y.cls index "java/lang/String" "COMPACT_STRINGS" "Z" ∈ tb) (hd : decode cc pc = .ok (.getstatic index, 3)) (k : T X l y cc nL ret d (pc + 3) ls (.int 1 :: st) σ Q) : T X l y cc nL ret d pc ls st σ Q := by
  intro p e s m args below meth c H locs lsA hF hP hS hl
  exact va_gets hF.1 hF.2.1 hF.2.2.2.2.2.2.2.2.1 hS hF.2.2.2.2.2.1 (hF.2.2.2.2.2.2.1 _ hlink) (fun _ h => h) hd (k p e s m args below meth c H locs lsA hF hP hS hl)
theorem T_sfmt {index : Nat} (hlink : Cond.fieldLink y.cls index "jdk/internal/util/Preconditions" "SIOOBE_FORMATTER" "Ljava/util/function/BiFunction;" ∈ tb) (hd : decode cc pc = .ok (.getstatic index, 3)) (k : ∀ v : Value, v.category = 1 → T X l y cc nL ret d (pc + 3) ls (v :: st) σ Q) : T X l y cc nL ret d pc ls st σ Q := by
  intro p e s m args below meth c H locs lsA hF hP hS hl
  rcases hF.2.2.2.2.2.2.2.2.2.2 with hz | ⟨t, hz⟩
  · exact va_gets hF.1 hF.2.1 hz hS hF.2.2.2.2.2.1 (hF.2.2.2.2.2.2.1 _ hlink) (fun _ h => h) hd (k _ rfl p e s m args below meth c H locs lsA hF hP hS hl)
  · exact va_gets hF.1 hF.2.1 hz hS hF.2.2.2.2.2.1 (hF.2.2.2.2.2.2.1 _ hlink) (fun _ h => h) hd (k _ rfl p e s m args below meth c H locs lsA hF hP hS hl)
theorem T_slen {i : Nat} (hi : i < 2) (hd : decode cc pc = .ok (.arraylength, 1)) (k : T X l y cc nL ret d (pc + 1) ls (.int (nI 6) :: st) σ Q) : T X l y cc nL ret d pc ls (.ref (sV X i) :: st) σ Q := by
  intro p e s m args below meth c H locs lsA hF hP hS hl
  have h1 := (hF.2.2.2.2.2.2.2.2.2.1.1 i hi).2.2.2
  refine va_tlen hF.1 hF.2.1 h1 hS (v := nI 6) ?_ hd (k p e s m args below meth c H locs lsA hF hP hS hl)
  rcases (show i = 0 ∨ i = 1 by omega) with rfl | rfl <;> rfl
theorem T_sbal {i j : Nat} (hi : i < 2) (hj : j < 6) (hd : decode cc pc = .ok (.baload, 1)) (k : T X l y cc nL ret d (pc + 1) ls (.int (sB i j) :: st) σ Q) : T X l y cc nL ret d pc ls (.int (nI j) :: .ref (sV X i) :: st) σ Q := by
  intro p e s m args below meth c H locs lsA hF hP hS hl
  have h1 := (hF.2.2.2.2.2.2.2.2.2.1.1 i hi).2.2.2
  refine va_tb hF.1 hF.2.1 h1 hS (v := .int (sB i j)) ?_ ?_ hd (k p e s m args below meth c H locs lsA hF hP hS hl)
  · rcases (show i = 0 ∨ i = 1 by omega) with rfl | rfl <;> exact vp_in_nI hj (by decide)
  · rw [nI_clamp (by omega)]
    rfl
/-- a field of another ledger -/
theorem T_g1O {r r2 index : Nat} {v : Value} (hne : ¬ r2 = r) (hL : Lv X 1 r2) (f : Nat) (hf : f < 13) (hlink : Cond.fieldLink y.cls index (TX1 f).1 (TX1 f).2.1 (TX1 f).2.2.1 ∈ tb) (hv : (fl1 X r2 (σ0 1 r2 0))[f]? = some v) (hd : decode cc pc = .ok (.getfield index, 3)) (k : T X l y cc nL ret d (pc + 3) ls (v :: st) (setR σ0 1 r h) Q) : T X l y cc nL ret d pc ls (.ref (adr X 1 r2 0) :: st) (setR σ0 1 r h) Q :=
  T_get (g := σ0 1 r2 0) (fs := fl1 X r2 (σ0 1 r2 0)) (by rw [setR_ne (fun e => hne e.2)]) (hL 0 (by decide)) rfl rfl inX1 f hf hlink hv hd k
/-- a whole row of another ledger is copied in -/
theorem T_acO {index r r2 k n : Nat} {nn : Int32} (hne : ¬ r2 = r) (hw : Cond.methodLink y.cls index arraycopyName ∈ tb) (hid : (1, r2, k) ∈ ids X) (hid' : (1, r, k) ∈ ids X) (hc : ∀ g : Nat → Int32, cel X g 1 r2 k = arI X 0 n g) (hc' : ∀ g : Nat → Int32, cel X g 1 r k = arI X 0 n g) (hn : n < 2 ^ 31) (hnn : nn = nI n) (hd1 : 2 ≤ d) (hr : (st.map fun v => v.category).sum ≤ 8) (hd : decode cc pc = .ok (.invokestatic index, 3))
    (kk : T X l y cc nL ret d (pc + 3) ls st (setR σ0 1 r (up1 h k (σ0 1 r2 k))) Q) : T X l y cc nL ret d pc ls (.int nn :: .int (nI 0) :: .ref (adr X 1 r k) :: .int (nI 0) :: .ref (adr X 1 r2 k) :: st) (setR σ0 1 r h) Q :=
  T_acopy (g := σ0 1 r2 k) (h' := h) hw nat_arraycopyName sm_arraycopyName ini__java_lang_System_ (by rw [setR_ne (fun e => hne e.2)]) (setR_self σ0 1 r h) hid hid' hc hc' hn rfl rfl hnn hd1 hr (setR_setR σ0 1 r h _) hd kk
end STRS
end
section

/-! ===== the ledger's words ===== -/
abbrev bit (s : Int32) (w : Nat) : Prop := (s >>> (nI w &&& 31)) &&& nI 1 = nI 1
theorem b01_0 {p : Prop} {_ : Decidable p} (h : (if p then nI 1 else nI 0) = 0) : ¬ p := fun q => by rw [if_pos q] at h; exact absurd h (by decide)
theorem b01_1 {p : Prop} {_ : Decidable p} (h : ¬ (if p then nI 1 else nI 0) = 0) : p := Classical.byContradiction fun q => by rw [if_neg q] at h; exact h (by decide)
/-- the weights of the first n writes that are in s -/
def wSum (g : Nat → Int32) (s : Int32) : Nat → Int32
  | 0 => nI 0
  | n + 1 => if bit s n then wSum g s n + g n else wSum g s n
/-- the first n writes that are c's, as bits -/
def wBy (g : Nat → Int32) (c : Int32) : Nat → Int32
  | 0 => nI 0
  | n + 1 => if g n = c then wBy g c n ||| (nI 1 <<< (nI n &&& 31)) else wBy g c n
def nC (h : Rg) : Nat := (h 0 0).toNatClampNeg
def nW (h : Rg) : Nat := (h 0 2).toNatClampNeg
/-- a ledger's numbers of copies and writes are in range -/
def Wf (h : Rg) : Prop := h 0 0 = nI (nC h) ∧ 2 ≤ nC h ∧ nC h ≤ 4 ∧ h 0 2 = nI (nW h) ∧ nW h ≤ 24
theorem Wf.congr {h h' : Rg} (hw : Wf h) (e : h' 0 = h 0) : Wf h' := by
  unfold Wf nC nW at *
  rw [e]
  exact hw
theorem nC_congr {h h' : Rg} (e : h' 0 = h 0) : nC h' = nC h := by unfold nC; rw [e]
theorem nW_congr {h h' : Rg} (e : h' 0 = h 0) : nW h' = nW h := by unfold nW; rw [e]
def owedS (h : Rg) (c a : Nat) : Int32 := wSum (h 10) (wBy (h 8) (nI c) (nW h) &&& (h 4 a ^^^ -1)) (nW h)
def leftS (h : Rg) (c a : Nat) : Int32 := h 7 (a * 4 + c) - owedS h c a
def allS (h : Rg) : Int32 := (nI 1 <<< (h 0 2 &&& 31)) - nI 1
/-- what bitCount works out -/
def popS (i : Int32) : Int32 :=
  let a := i - ((i.toUInt32 >>> ((nI 1).toUInt32 &&& Int32.toUInt32 31)).toInt32 &&& 1431655765)
  let b := (a &&& 858993459) + ((a.toUInt32 >>> ((nI 2).toUInt32 &&& Int32.toUInt32 31)).toInt32 &&& 858993459)
  let c := (b + (b.toUInt32 >>> ((nI 4).toUInt32 &&& Int32.toUInt32 31)).toInt32) &&& 252645135
  let e := c + (c.toUInt32 >>> ((nI 8).toUInt32 &&& Int32.toUInt32 31)).toInt32
  let f := e + (e.toUInt32 >>> ((nI 16).toUInt32 &&& Int32.toUInt32 31)).toInt32
  f &&& nI 63
def slowS (h : Rg) (a : Nat) : Int32 := popS (h 4 a &&& (h 5 a ^^^ -1))
def spareS (h : Rg) (c : Nat) : Nat → Int32
  | 0 => nI 99
  | n + 1 => if n = c then spareS h c n else (if leftS h c n < spareS h c n then leftS h c n else spareS h c n)
/-- the copies (below n) whose row holds all of s -/
def withS (g : Nat → Int32) (s : Int32) : Nat → Int32
  | 0 => nI 0
  | n + 1 => if g n &&& s = s then withS g s n ||| (nI 1 <<< (nI n &&& 31)) else withS g s n
/-- to how many copies (below n) c would push -/
def pforS (h : Rg) (c : Nat) (m : Int32) : Nat → Nat
  | 0 => 0
  | n + 1 => if n = c then pforS h c m n else if m ≤ leftS h c n then pforS h c m n else pforS h c m n + 1
def learnS (h : Rg) (a : Nat) (s : Int32) : Rg := up2 (up2 h 4 a (h 4 a ||| s)) 5 0 (up2 h 4 a (h 4 a ||| s) 4 0)
def pushS (h : Rg) (c a : Nat) : Rg := up2 (learnS h a (wBy (h 8) (nI c) (nW h))) 6 (a * 4 + c) (h 0 1)
def pifS (h : Rg) (c a : Nat) : Rg := if leftS h c a < 0 then pushS h c a else h
/-- pushes from c to the copies below n: the ledger, how many -/
def accS (h : Rg) (c : Nat) : Nat → Rg × Nat
  | 0 => (h, 0)
  | n + 1 => if n = c then accS h c n else if leftS (accS h c n).1 c n < 0 then (pushS (accS h c n).1 c n, (accS h c n).2 + 1) else accS h c n
def newWS (h : Rg) (c : Nat) (w : Int32) : Rg := up2 (learnS (up2 (up2 (up2 h 8 (nW h) (nI c)) 9 (nW h) (h 0 1)) 10 (nW h) w) c (nI 1 <<< (h 0 2 &&& 31))) 0 2 (h 0 2 + nI 1)
def tkS (h g : Rg) : Rg := up1 (up1 (up1 (up1 (up1 (up1 (up1 (up1 (up1 (up1 (up2 (up2 (up2 h 0 0 (g 0 0)) 0 1 (g 0 1)) 0 2 (g 0 2)) 1 (g 1)) 2 (g 2)) 3 (g 3)) 4 (g 4)) 5 (g 5)) 6 (g 6)) 7 (g 7)) 8 (g 8)) 9 (g 9)) 10 (g 10)
/-- pushes to a from the copies below n -/
def bndS (h : Rg) (a : Nat) : Nat → Rg × Nat
  | 0 => (h, 0)
  | n + 1 => if n = a then bndS h a n else if leftS (bndS h a n).1 n a < 0 then (pushS (bndS h a n).1 n a, (bndS h a n).2 + 1) else bndS h a n
def heaS (h : Rg) (a c : Nat) : Nat → Rg
  | 0 => h
  | n + 1 => if n = a then heaS h a c n else if n = c then heaS h a c n else up2 (heaS h a c n) 6 (a * 4 + n) (if heaS h a c n 6 (a * 4 + n) < heaS h a c n 6 (c * 4 + n) then heaS h a c n 6 (c * 4 + n) else heaS h a c n 6 (a * 4 + n))
def pul0S (h : Rg) (a c : Nat) : Rg := up2 (up2 (learnS h a (h 4 c)) 5 a (learnS h a (h 4 c) 5 a ||| learnS h a (h 4 c) 5 c)) 6 (a * 4 + c) (h 0 1)
def pullS (h : Rg) (a c : Nat) : Rg := heaS (pul0S h a c) a c (nC h)
def redS (h : Rg) (a : Nat) : Nat → Rg × Nat
  | 0 => (h, 0)
  | n + 1 => if n = a then redS h a n else if (redS h a n).1 0 1 - (redS h a n).1 6 (a * 4 + n) ≤ (redS h a n).1 3 a then redS h a n else (pullS (redS h a n).1 a n, (redS h a n).2 + 1)
def readS (h : Rg) (a : Nat) : Rg × Nat := if slowS (redS h a (nC h)).1 a ≤ (redS h a (nC h)).1 2 a then redS h a (nC h) else (pullS (pullS (redS h a (nC h)).1 0 a) a 0, (redS h a (nC h)).2 + 2)
def moveS (h : Rg) (a c e : Nat) (k : Int32) : Rg := up2 (up2 h 7 (a * 4 + c) (h 7 (a * 4 + c) - k)) 7 (a * 4 + e) (up2 h 7 (a * 4 + c) (h 7 (a * 4 + c) - k) 7 (a * 4 + e) + k)
/-- what c gets of t, split among all n copies but a -/
def shareS (n : Nat) (t : Int32) (a c : Nat) : Int32 := t / nI (n - 1) + (if nI (if a < c then c - 1 else c) < t - t / nI (n - 1) * nI (n - 1) then nI 1 else nI 0)
def splS (h : Rg) (a : Nat) : Nat → Rg
  | 0 => h
  | n + 1 => if n = a then splS h a n else up2 (splS h a n) 7 (a * 4 + n) (shareS (nC h) (h 1 a) a n)
def spaS (h : Rg) : Nat → Rg
  | 0 => h
  | n + 1 => splS (spaS h n) n (nC h)
def setbS (h : Rg) (a : Nat) (x y z : Int32) : Rg := up2 (up2 (up2 h 1 a x) 2 a y) 3 a z
def totS (h : Rg) (a : Nat) : Nat → Int32
  | 0 => nI 0
  | n + 1 => if n = a then totS h a n else totS h a n + leftS h n a
def eveS (h : Rg) (a : Nat) (t : Int32) : Nat → Rg
  | 0 => h
  | n + 1 => if n = a then eveS h a t n else up2 (eveS h a t n) 7 (a * 4 + n) (owedS (eveS h a t n) n a + shareS (nC h) t a n)
def bindS (h : Rg) (a : Nat) (x y z : Int32) : Rg × Nat := bndS (if h 1 a = x then setbS h a x y z else splS (setbS h a x y z) a (nC h)) a (nC h)
def fillT (g : Nat → Int32) (v : Int32) : Nat → (Nat → Int32)
  | 0 => g
  | n + 1 => upd (fillT g v n) n v
def newS (h : Rg) : Rg := up1 (up1 (up1 (up1 (up1 (up1 (up2 (up2 (up2 h 0 0 (nI 3)) 0 1 (nI 0)) 0 2 (nI 0)) 1 (fillT (h 1) (nI 99) 4)) 2 (fillT (h 2) (nI 9) 4)) 3 (fillT (h 3) (nI 99) 4)) 4 (fillT (h 4) (nI 0) 4)) 5 (fillT (h 5) (nI 0) 4)) 6 (fillT (h 6) (nI 0) 16)

theorem de_J0_charAt_5068e : yJ0_charAt_5068e.cls ≠ "java/lang/invoke/MethodHandle" ∧ yJ0_charAt_5068e.cls ≠ "java/lang/invoke/VarHandle" ∧ (parseMethodDescriptor yJ0_charAt_5068e.desc).map (fun d => d.parameters.length) = some 1 := by decide +kernel
theorem de_J0_checkIndex_df160 : yJ0_checkIndex_df160.cls ≠ "java/lang/invoke/MethodHandle" ∧ yJ0_checkIndex_df160.cls ≠ "java/lang/invoke/VarHandle" ∧ (parseMethodDescriptor yJ0_checkIndex_df160.desc).map (fun d => d.parameters.length) = some 2 := by decide +kernel
theorem de_J0_coder_7d493 : yJ0_coder_7d493.cls ≠ "java/lang/invoke/MethodHandle" ∧ yJ0_coder_7d493.cls ≠ "java/lang/invoke/VarHandle" ∧ (parseMethodDescriptor yJ0_coder_7d493.desc).map (fun d => d.parameters.length) = some 0 := by decide +kernel
theorem de_J0_isLatin1_aae02 : yJ0_isLatin1_aae02.cls ≠ "java/lang/invoke/MethodHandle" ∧ yJ0_isLatin1_aae02.cls ≠ "java/lang/invoke/VarHandle" ∧ (parseMethodDescriptor yJ0_isLatin1_aae02.desc).map (fun d => d.parameters.length) = some 0 := by decide +kernel
theorem de_J0_length_8abf5 : yJ0_length_8abf5.cls ≠ "java/lang/invoke/MethodHandle" ∧ yJ0_length_8abf5.cls ≠ "java/lang/invoke/VarHandle" ∧ (parseMethodDescriptor yJ0_length_8abf5.desc).map (fun d => d.parameters.length) = some 0 := by decide +kernel
theorem de_J1_charAt_3b067 : yJ1_charAt_3b067.cls ≠ "java/lang/invoke/MethodHandle" ∧ yJ1_charAt_3b067.cls ≠ "java/lang/invoke/VarHandle" ∧ (parseMethodDescriptor yJ1_charAt_3b067.desc).map (fun d => d.parameters.length) = some 2 := by decide +kernel
theorem de_J2_charAt_3b067 : yJ2_charAt_3b067.cls ≠ "java/lang/invoke/MethodHandle" ∧ yJ2_charAt_3b067.cls ≠ "java/lang/invoke/VarHandle" ∧ (parseMethodDescriptor yJ2_charAt_3b067.desc).map (fun d => d.parameters.length) = some 2 := by decide +kernel
theorem de_J2_checkIndex_2214a : yJ2_checkIndex_2214a.cls ≠ "java/lang/invoke/MethodHandle" ∧ yJ2_checkIndex_2214a.cls ≠ "java/lang/invoke/VarHandle" ∧ (parseMethodDescriptor yJ2_checkIndex_2214a.desc).map (fun d => d.parameters.length) = some 2 := by decide +kernel
theorem de_J2_getChar_3b067 : yJ2_getChar_3b067.cls ≠ "java/lang/invoke/MethodHandle" ∧ yJ2_getChar_3b067.cls ≠ "java/lang/invoke/VarHandle" ∧ (parseMethodDescriptor yJ2_getChar_3b067.desc).map (fun d => d.parameters.length) = some 2 := by decide +kernel
theorem de_J2_length_9d52b : yJ2_length_9d52b.cls ≠ "java/lang/invoke/MethodHandle" ∧ yJ2_length_9d52b.cls ≠ "java/lang/invoke/VarHandle" ∧ (parseMethodDescriptor yJ2_length_9d52b.desc).map (fun d => d.parameters.length) = some 1 := by decide +kernel
theorem de_J3_checkIndex_8e157 : yJ3_checkIndex_8e157.cls ≠ "java/lang/invoke/MethodHandle" ∧ yJ3_checkIndex_8e157.cls ≠ "java/lang/invoke/VarHandle" ∧ (parseMethodDescriptor yJ3_checkIndex_8e157.desc).map (fun d => d.parameters.length) = some 3 := by decide +kernel
theorem de_J6_bitCount_0f7a4 : yJ6_bitCount_0f7a4.cls ≠ "java/lang/invoke/MethodHandle" ∧ yJ6_bitCount_0f7a4.cls ≠ "java/lang/invoke/VarHandle" ∧ (parseMethodDescriptor yJ6_bitCount_0f7a4.desc).map (fun d => d.parameters.length) = some 1 := by decide +kernel
theorem de_J7_fill_53178 : yJ7_fill_53178.cls ≠ "java/lang/invoke/MethodHandle" ∧ yJ7_fill_53178.cls ≠ "java/lang/invoke/VarHandle" ∧ (parseMethodDescriptor yJ7_fill_53178.desc).map (fun d => d.parameters.length) = some 2 := by decide +kernel
theorem de_J9_max_7cf53 : yJ9_max_7cf53.cls ≠ "java/lang/invoke/MethodHandle" ∧ yJ9_max_7cf53.cls ≠ "java/lang/invoke/VarHandle" ∧ (parseMethodDescriptor yJ9_max_7cf53.desc).map (fun d => d.parameters.length) = some 2 := by decide +kernel
theorem de_J9_min_7cf53 : yJ9_min_7cf53.cls ≠ "java/lang/invoke/MethodHandle" ∧ yJ9_min_7cf53.cls ≠ "java/lang/invoke/VarHandle" ∧ (parseMethodDescriptor yJ9_min_7cf53.desc).map (fun d => d.parameters.length) = some 2 := by decide +kernel
theorem de_X0_init : yX0_init.cls ≠ "java/lang/invoke/MethodHandle" ∧ yX0_init.cls ≠ "java/lang/invoke/VarHandle" ∧ (parseMethodDescriptor yX0_init.desc).map (fun d => d.parameters.length) = some 0 := by decide +kernel
theorem de_X0_lose : yX0_lose.cls ≠ "java/lang/invoke/MethodHandle" ∧ yX0_lose.cls ≠ "java/lang/invoke/VarHandle" ∧ (parseMethodDescriptor yX0_lose.desc).map (fun d => d.parameters.length) = some 0 := by decide +kernel
theorem de_X0_remember : yX0_remember.cls ≠ "java/lang/invoke/MethodHandle" ∧ yX0_remember.cls ≠ "java/lang/invoke/VarHandle" ∧ (parseMethodDescriptor yX0_remember.desc).map (fun d => d.parameters.length) = some 1 := by decide +kernel
theorem de_X0_restore : yX0_restore.cls ≠ "java/lang/invoke/MethodHandle" ∧ yX0_restore.cls ≠ "java/lang/invoke/VarHandle" ∧ (parseMethodDescriptor yX0_restore.desc).map (fun d => d.parameters.length) = some 1 := by decide +kernel
theorem de_X1_accept : yX1_accept.cls ≠ "java/lang/invoke/MethodHandle" ∧ yX1_accept.cls ≠ "java/lang/invoke/VarHandle" ∧ (parseMethodDescriptor yX1_accept.desc).map (fun d => d.parameters.length) = some 2 := by decide +kernel
theorem de_X1_allWrites : yX1_allWrites.cls ≠ "java/lang/invoke/MethodHandle" ∧ yX1_allWrites.cls ≠ "java/lang/invoke/VarHandle" ∧ (parseMethodDescriptor yX1_allWrites.desc).map (fun d => d.parameters.length) = some 0 := by decide +kernel
theorem de_X1_bindAnew : yX1_bindAnew.cls ≠ "java/lang/invoke/MethodHandle" ∧ yX1_bindAnew.cls ≠ "java/lang/invoke/VarHandle" ∧ (parseMethodDescriptor yX1_bindAnew.desc).map (fun d => d.parameters.length) = some 4 := by decide +kernel
theorem de_X1_copiesWith : yX1_copiesWith.cls ≠ "java/lang/invoke/MethodHandle" ∧ yX1_copiesWith.cls ≠ "java/lang/invoke/VarHandle" ∧ (parseMethodDescriptor yX1_copiesWith.desc).map (fun d => d.parameters.length) = some 2 := by decide +kernel
theorem de_X1_even : yX1_even.cls ≠ "java/lang/invoke/MethodHandle" ∧ yX1_even.cls ≠ "java/lang/invoke/VarHandle" ∧ (parseMethodDescriptor yX1_even.desc).map (fun d => d.parameters.length) = some 1 := by decide +kernel
theorem de_X1_init : yX1_init.cls ≠ "java/lang/invoke/MethodHandle" ∧ yX1_init.cls ≠ "java/lang/invoke/VarHandle" ∧ (parseMethodDescriptor yX1_init.desc).map (fun d => d.parameters.length) = some 0 := by decide +kernel
theorem de_X1_isBound : yX1_isBound.cls ≠ "java/lang/invoke/MethodHandle" ∧ yX1_isBound.cls ≠ "java/lang/invoke/VarHandle" ∧ (parseMethodDescriptor yX1_isBound.desc).map (fun d => d.parameters.length) = some 4 := by decide +kernel
theorem de_X1_lack : yX1_lack.cls ≠ "java/lang/invoke/MethodHandle" ∧ yX1_lack.cls ≠ "java/lang/invoke/VarHandle" ∧ (parseMethodDescriptor yX1_lack.desc).map (fun d => d.parameters.length) = some 1 := by decide +kernel
theorem de_X1_learn : yX1_learn.cls ≠ "java/lang/invoke/MethodHandle" ∧ yX1_learn.cls ≠ "java/lang/invoke/VarHandle" ∧ (parseMethodDescriptor yX1_learn.desc).map (fun d => d.parameters.length) = some 2 := by decide +kernel
theorem de_X1_left : yX1_left.cls ≠ "java/lang/invoke/MethodHandle" ∧ yX1_left.cls ≠ "java/lang/invoke/VarHandle" ∧ (parseMethodDescriptor yX1_left.desc).map (fun d => d.parameters.length) = some 2 := by decide +kernel
theorem de_X1_move : yX1_move.cls ≠ "java/lang/invoke/MethodHandle" ∧ yX1_move.cls ≠ "java/lang/invoke/VarHandle" ∧ (parseMethodDescriptor yX1_move.desc).map (fun d => d.parameters.length) = some 4 := by decide +kernel
theorem de_X1_owed : yX1_owed.cls ≠ "java/lang/invoke/MethodHandle" ∧ yX1_owed.cls ≠ "java/lang/invoke/VarHandle" ∧ (parseMethodDescriptor yX1_owed.desc).map (fun d => d.parameters.length) = some 2 := by decide +kernel
theorem de_X1_pull : yX1_pull.cls ≠ "java/lang/invoke/MethodHandle" ∧ yX1_pull.cls ≠ "java/lang/invoke/VarHandle" ∧ (parseMethodDescriptor yX1_pull.desc).map (fun d => d.parameters.length) = some 2 := by decide +kernel
theorem de_X1_pushIfOver : yX1_pushIfOver.cls ≠ "java/lang/invoke/MethodHandle" ∧ yX1_pushIfOver.cls ≠ "java/lang/invoke/VarHandle" ∧ (parseMethodDescriptor yX1_pushIfOver.desc).map (fun d => d.parameters.length) = some 2 := by decide +kernel
theorem de_X1_pushesFor : yX1_pushesFor.cls ≠ "java/lang/invoke/MethodHandle" ∧ yX1_pushesFor.cls ≠ "java/lang/invoke/VarHandle" ∧ (parseMethodDescriptor yX1_pushesFor.desc).map (fun d => d.parameters.length) = some 2 := by decide +kernel
theorem de_X1_read : yX1_read.cls ≠ "java/lang/invoke/MethodHandle" ∧ yX1_read.cls ≠ "java/lang/invoke/VarHandle" ∧ (parseMethodDescriptor yX1_read.desc).map (fun d => d.parameters.length) = some 1 := by decide +kernel
theorem de_X1_setBounds : yX1_setBounds.cls ≠ "java/lang/invoke/MethodHandle" ∧ yX1_setBounds.cls ≠ "java/lang/invoke/VarHandle" ∧ (parseMethodDescriptor yX1_setBounds.desc).map (fun d => d.parameters.length) = some 4 := by decide +kernel
theorem de_X1_shareOf : yX1_shareOf.cls ≠ "java/lang/invoke/MethodHandle" ∧ yX1_shareOf.cls ≠ "java/lang/invoke/VarHandle" ∧ (parseMethodDescriptor yX1_shareOf.desc).map (fun d => d.parameters.length) = some 3 := by decide +kernel
theorem de_X1_slow : yX1_slow.cls ≠ "java/lang/invoke/MethodHandle" ∧ yX1_slow.cls ≠ "java/lang/invoke/VarHandle" ∧ (parseMethodDescriptor yX1_slow.desc).map (fun d => d.parameters.length) = some 1 := by decide +kernel
theorem de_X1_spare : yX1_spare.cls ≠ "java/lang/invoke/MethodHandle" ∧ yX1_spare.cls ≠ "java/lang/invoke/VarHandle" ∧ (parseMethodDescriptor yX1_spare.desc).map (fun d => d.parameters.length) = some 1 := by decide +kernel
theorem de_X1_splitAllNumbers : yX1_splitAllNumbers.cls ≠ "java/lang/invoke/MethodHandle" ∧ yX1_splitAllNumbers.cls ≠ "java/lang/invoke/VarHandle" ∧ (parseMethodDescriptor yX1_splitAllNumbers.desc).map (fun d => d.parameters.length) = some 0 := by decide +kernel
theorem de_X1_splitNumber : yX1_splitNumber.cls ≠ "java/lang/invoke/MethodHandle" ∧ yX1_splitNumber.cls ≠ "java/lang/invoke/VarHandle" ∧ (parseMethodDescriptor yX1_splitNumber.desc).map (fun d => d.parameters.length) = some 1 := by decide +kernel
theorem de_X1_startAnew : yX1_startAnew.cls ≠ "java/lang/invoke/MethodHandle" ∧ yX1_startAnew.cls ≠ "java/lang/invoke/VarHandle" ∧ (parseMethodDescriptor yX1_startAnew.desc).map (fun d => d.parameters.length) = some 0 := by decide +kernel
theorem de_X1_sum : yX1_sum.cls ≠ "java/lang/invoke/MethodHandle" ∧ yX1_sum.cls ≠ "java/lang/invoke/VarHandle" ∧ (parseMethodDescriptor yX1_sum.desc).map (fun d => d.parameters.length) = some 1 := by decide +kernel
theorem de_X1_takeFrom : yX1_takeFrom.cls ≠ "java/lang/invoke/MethodHandle" ∧ yX1_takeFrom.cls ≠ "java/lang/invoke/VarHandle" ∧ (parseMethodDescriptor yX1_takeFrom.desc).map (fun d => d.parameters.length) = some 1 := by decide +kernel
theorem de_X1_weightOf : yX1_weightOf.cls ≠ "java/lang/invoke/MethodHandle" ∧ yX1_weightOf.cls ≠ "java/lang/invoke/VarHandle" ∧ (parseMethodDescriptor yX1_weightOf.desc).map (fun d => d.parameters.length) = some 1 := by decide +kernel
theorem de_X1_writesBy : yX1_writesBy.cls ≠ "java/lang/invoke/MethodHandle" ∧ yX1_writesBy.cls ≠ "java/lang/invoke/VarHandle" ∧ (parseMethodDescriptor yX1_writesBy.desc).map (fun d => d.parameters.length) = some 1 := by decide +kernel
theorem de_X2_add : yX2_add.cls ≠ "java/lang/invoke/MethodHandle" ∧ yX2_add.cls ≠ "java/lang/invoke/VarHandle" ∧ (parseMethodDescriptor yX2_add.desc).map (fun d => d.parameters.length) = some 1 := by decide +kernel
theorem de_X2_drop : yX2_drop.cls ≠ "java/lang/invoke/MethodHandle" ∧ yX2_drop.cls ≠ "java/lang/invoke/VarHandle" ∧ (parseMethodDescriptor yX2_drop.desc).map (fun d => d.parameters.length) = some 0 := by decide +kernel
theorem de_X2_findTokens : yX2_findTokens.cls ≠ "java/lang/invoke/MethodHandle" ∧ yX2_findTokens.cls ≠ "java/lang/invoke/VarHandle" ∧ (parseMethodDescriptor yX2_findTokens.desc).map (fun d => d.parameters.length) = some 0 := by decide +kernel
theorem de_X2_init : yX2_init.cls ≠ "java/lang/invoke/MethodHandle" ∧ yX2_init.cls ≠ "java/lang/invoke/VarHandle" ∧ (parseMethodDescriptor yX2_init.desc).map (fun d => d.parameters.length) = some 0 := by decide +kernel
theorem de_X2_isFigure : yX2_isFigure.cls ≠ "java/lang/invoke/MethodHandle" ∧ yX2_isFigure.cls ≠ "java/lang/invoke/VarHandle" ∧ (parseMethodDescriptor yX2_isFigure.desc).map (fun d => d.parameters.length) = some 1 := by decide +kernel
theorem de_X2_isSmallLetter : yX2_isSmallLetter.cls ≠ "java/lang/invoke/MethodHandle" ∧ yX2_isSmallLetter.cls ≠ "java/lang/invoke/VarHandle" ∧ (parseMethodDescriptor yX2_isSmallLetter.desc).map (fun d => d.parameters.length) = some 1 := by decide +kernel
theorem de_X2_passKind : yX2_passKind.cls ≠ "java/lang/invoke/MethodHandle" ∧ yX2_passKind.cls ≠ "java/lang/invoke/VarHandle" ∧ (parseMethodDescriptor yX2_passKind.desc).map (fun d => d.parameters.length) = some 1 := by decide +kernel
theorem de_X2_passNumber : yX2_passNumber.cls ≠ "java/lang/invoke/MethodHandle" ∧ yX2_passNumber.cls ≠ "java/lang/invoke/VarHandle" ∧ (parseMethodDescriptor yX2_passNumber.desc).map (fun d => d.parameters.length) = some 2 := by decide +kernel
theorem de_X2_spells : yX2_spells.cls ≠ "java/lang/invoke/MethodHandle" ∧ yX2_spells.cls ≠ "java/lang/invoke/VarHandle" ∧ (parseMethodDescriptor yX2_spells.desc).map (fun d => d.parameters.length) = some 3 := by decide +kernel
theorem de_X2_takeFigures : yX2_takeFigures.cls ≠ "java/lang/invoke/MethodHandle" ∧ yX2_takeFigures.cls ≠ "java/lang/invoke/VarHandle" ∧ (parseMethodDescriptor yX2_takeFigures.desc).map (fun d => d.parameters.length) = some 2 := by decide +kernel
theorem de_X2_takeToken : yX2_takeToken.cls ≠ "java/lang/invoke/MethodHandle" ∧ yX2_takeToken.cls ≠ "java/lang/invoke/VarHandle" ∧ (parseMethodDescriptor yX2_takeToken.desc).map (fun d => d.parameters.length) = some 2 := by decide +kernel
theorem de_X2_takeWord : yX2_takeWord.cls ≠ "java/lang/invoke/MethodHandle" ∧ yX2_takeWord.cls ≠ "java/lang/invoke/VarHandle" ∧ (parseMethodDescriptor yX2_takeWord.desc).map (fun d => d.parameters.length) = some 2 := by decide +kernel
theorem de_X2_tellBounds : yX2_tellBounds.cls ≠ "java/lang/invoke/MethodHandle" ∧ yX2_tellBounds.cls ≠ "java/lang/invoke/VarHandle" ∧ (parseMethodDescriptor yX2_tellBounds.desc).map (fun d => d.parameters.length) = some 1 := by decide +kernel
theorem de_X2_tellCopies : yX2_tellCopies.cls ≠ "java/lang/invoke/MethodHandle" ∧ yX2_tellCopies.cls ≠ "java/lang/invoke/VarHandle" ∧ (parseMethodDescriptor yX2_tellCopies.desc).map (fun d => d.parameters.length) = some 1 := by decide +kernel
theorem de_X2_tellInto : yX2_tellInto.cls ≠ "java/lang/invoke/MethodHandle" ∧ yX2_tellInto.cls ≠ "java/lang/invoke/VarHandle" ∧ (parseMethodDescriptor yX2_tellInto.desc).map (fun d => d.parameters.length) = some 1 := by decide +kernel
theorem de_X2_tellItem : yX2_tellItem.cls ≠ "java/lang/invoke/MethodHandle" ∧ yX2_tellItem.cls ≠ "java/lang/invoke/VarHandle" ∧ (parseMethodDescriptor yX2_tellItem.desc).map (fun d => d.parameters.length) = some 2 := by decide +kernel
theorem de_X3_accepts : yX3_accepts.cls ≠ "java/lang/invoke/MethodHandle" ∧ yX3_accepts.cls ≠ "java/lang/invoke/VarHandle" ∧ (parseMethodDescriptor yX3_accepts.desc).map (fun d => d.parameters.length) = some 2 := by decide +kernel
theorem de_X3_alikeWith : yX3_alikeWith.cls ≠ "java/lang/invoke/MethodHandle" ∧ yX3_alikeWith.cls ≠ "java/lang/invoke/VarHandle" ∧ (parseMethodDescriptor yX3_alikeWith.desc).map (fun d => d.parameters.length) = some 2 := by decide +kernel
theorem de_X3_answerOf : yX3_answerOf.cls ≠ "java/lang/invoke/MethodHandle" ∧ yX3_answerOf.cls ≠ "java/lang/invoke/VarHandle" ∧ (parseMethodDescriptor yX3_answerOf.desc).map (fun d => d.parameters.length) = some 2 := by decide +kernel
theorem de_X3_arePair : yX3_arePair.cls ≠ "java/lang/invoke/MethodHandle" ∧ yX3_arePair.cls ≠ "java/lang/invoke/VarHandle" ∧ (parseMethodDescriptor yX3_arePair.desc).map (fun d => d.parameters.length) = some 2 := by decide +kernel
theorem de_X3_ask : yX3_ask.cls ≠ "java/lang/invoke/MethodHandle" ∧ yX3_ask.cls ≠ "java/lang/invoke/VarHandle" ∧ (parseMethodDescriptor yX3_ask.desc).map (fun d => d.parameters.length) = some 0 := by decide +kernel
theorem de_X3_back : yX3_back.cls ≠ "java/lang/invoke/MethodHandle" ∧ yX3_back.cls ≠ "java/lang/invoke/VarHandle" ∧ (parseMethodDescriptor yX3_back.desc).map (fun d => d.parameters.length) = some 1 := by decide +kernel
theorem de_X3_bounds : yX3_bounds.cls ≠ "java/lang/invoke/MethodHandle" ∧ yX3_bounds.cls ≠ "java/lang/invoke/VarHandle" ∧ (parseMethodDescriptor yX3_bounds.desc).map (fun d => d.parameters.length) = some 4 := by decide +kernel
theorem de_X3_clear : yX3_clear.cls ≠ "java/lang/invoke/MethodHandle" ∧ yX3_clear.cls ≠ "java/lang/invoke/VarHandle" ∧ (parseMethodDescriptor yX3_clear.desc).map (fun d => d.parameters.length) = some 0 := by decide +kernel
theorem de_X3_copy : yX3_copy.cls ≠ "java/lang/invoke/MethodHandle" ∧ yX3_copy.cls ≠ "java/lang/invoke/VarHandle" ∧ (parseMethodDescriptor yX3_copy.desc).map (fun d => d.parameters.length) = some 2 := by decide +kernel
theorem de_X3_costs : yX3_costs.cls ≠ "java/lang/invoke/MethodHandle" ∧ yX3_costs.cls ≠ "java/lang/invoke/VarHandle" ∧ (parseMethodDescriptor yX3_costs.desc).map (fun d => d.parameters.length) = some 2 := by decide +kernel
theorem de_X3_count : yX3_count.cls ≠ "java/lang/invoke/MethodHandle" ∧ yX3_count.cls ≠ "java/lang/invoke/VarHandle" ∧ (parseMethodDescriptor yX3_count.desc).map (fun d => d.parameters.length) = some 1 := by decide +kernel
theorem de_X3_evens : yX3_evens.cls ≠ "java/lang/invoke/MethodHandle" ∧ yX3_evens.cls ≠ "java/lang/invoke/VarHandle" ∧ (parseMethodDescriptor yX3_evens.desc).map (fun d => d.parameters.length) = some 1 := by decide +kernel
theorem de_X3_fitsAllSeen : yX3_fitsAllSeen.cls ≠ "java/lang/invoke/MethodHandle" ∧ yX3_fitsAllSeen.cls ≠ "java/lang/invoke/VarHandle" ∧ (parseMethodDescriptor yX3_fitsAllSeen.desc).map (fun d => d.parameters.length) = some 1 := by decide +kernel
theorem de_X3_forget : yX3_forget.cls ≠ "java/lang/invoke/MethodHandle" ∧ yX3_forget.cls ≠ "java/lang/invoke/VarHandle" ∧ (parseMethodDescriptor yX3_forget.desc).map (fun d => d.parameters.length) = some 0 := by decide +kernel
theorem de_X3_hasBit : yX3_hasBit.cls ≠ "java/lang/invoke/MethodHandle" ∧ yX3_hasBit.cls ≠ "java/lang/invoke/VarHandle" ∧ (parseMethodDescriptor yX3_hasBit.desc).map (fun d => d.parameters.length) = some 2 := by decide +kernel
theorem de_X3_init : yX3_init.cls ≠ "java/lang/invoke/MethodHandle" ∧ yX3_init.cls ≠ "java/lang/invoke/VarHandle" ∧ (parseMethodDescriptor yX3_init.desc).map (fun d => d.parameters.length) = some 0 := by decide +kernel
theorem de_X3_isCopy : yX3_isCopy.cls ≠ "java/lang/invoke/MethodHandle" ∧ yX3_isCopy.cls ≠ "java/lang/invoke/VarHandle" ∧ (parseMethodDescriptor yX3_isCopy.desc).map (fun d => d.parameters.length) = some 1 := by decide +kernel
theorem de_X3_keep : yX3_keep.cls ≠ "java/lang/invoke/MethodHandle" ∧ yX3_keep.cls ≠ "java/lang/invoke/VarHandle" ∧ (parseMethodDescriptor yX3_keep.desc).map (fun d => d.parameters.length) = some 1 := by decide +kernel
theorem de_X3_mostAlike : yX3_mostAlike.cls ≠ "java/lang/invoke/MethodHandle" ∧ yX3_mostAlike.cls ≠ "java/lang/invoke/VarHandle" ∧ (parseMethodDescriptor yX3_mostAlike.desc).map (fun d => d.parameters.length) = some 2 := by decide +kernel
theorem de_X3_moves : yX3_moves.cls ≠ "java/lang/invoke/MethodHandle" ∧ yX3_moves.cls ≠ "java/lang/invoke/VarHandle" ∧ (parseMethodDescriptor yX3_moves.desc).map (fun d => d.parameters.length) = some 4 := by decide +kernel
theorem de_X3_pair : yX3_pair.cls ≠ "java/lang/invoke/MethodHandle" ∧ yX3_pair.cls ≠ "java/lang/invoke/VarHandle" ∧ (parseMethodDescriptor yX3_pair.desc).map (fun d => d.parameters.length) = some 3 := by decide +kernel
theorem de_X3_passes : yX3_passes.cls ≠ "java/lang/invoke/MethodHandle" ∧ yX3_passes.cls ≠ "java/lang/invoke/VarHandle" ∧ (parseMethodDescriptor yX3_passes.desc).map (fun d => d.parameters.length) = some 1 := by decide +kernel
theorem de_X3_pulls : yX3_pulls.cls ≠ "java/lang/invoke/MethodHandle" ∧ yX3_pulls.cls ≠ "java/lang/invoke/VarHandle" ∧ (parseMethodDescriptor yX3_pulls.desc).map (fun d => d.parameters.length) = some 2 := by decide +kernel
theorem de_X3_reads : yX3_reads.cls ≠ "java/lang/invoke/MethodHandle" ∧ yX3_reads.cls ≠ "java/lang/invoke/VarHandle" ∧ (parseMethodDescriptor yX3_reads.desc).map (fun d => d.parameters.length) = some 1 := by decide +kernel
theorem de_X3_sees : yX3_sees.cls ≠ "java/lang/invoke/MethodHandle" ∧ yX3_sees.cls ≠ "java/lang/invoke/VarHandle" ∧ (parseMethodDescriptor yX3_sees.desc).map (fun d => d.parameters.length) = some 2 := by decide +kernel
theorem de_X3_slot : yX3_slot.cls ≠ "java/lang/invoke/MethodHandle" ∧ yX3_slot.cls ≠ "java/lang/invoke/VarHandle" ∧ (parseMethodDescriptor yX3_slot.desc).map (fun d => d.parameters.length) = some 2 := by decide +kernel
theorem de_X3_tells : yX3_tells.cls ≠ "java/lang/invoke/MethodHandle" ∧ yX3_tells.cls ≠ "java/lang/invoke/VarHandle" ∧ (parseMethodDescriptor yX3_tells.desc).map (fun d => d.parameters.length) = some 0 := by decide +kernel
theorem de_X3_type : yX3_type.cls ≠ "java/lang/invoke/MethodHandle" ∧ yX3_type.cls ≠ "java/lang/invoke/VarHandle" ∧ (parseMethodDescriptor yX3_type.desc).map (fun d => d.parameters.length) = some 1 := by decide +kernel
theorem de_X3_undo : yX3_undo.cls ≠ "java/lang/invoke/MethodHandle" ∧ yX3_undo.cls ≠ "java/lang/invoke/VarHandle" ∧ (parseMethodDescriptor yX3_undo.desc).map (fun d => d.parameters.length) = some 0 := by decide +kernel
theorem de_X3_which : yX3_which.cls ≠ "java/lang/invoke/MethodHandle" ∧ yX3_which.cls ≠ "java/lang/invoke/VarHandle" ∧ (parseMethodDescriptor yX3_which.desc).map (fun d => d.parameters.length) = some 0 := by decide +kernel
theorem de_X3_write : yX3_write.cls ≠ "java/lang/invoke/MethodHandle" ∧ yX3_write.cls ≠ "java/lang/invoke/VarHandle" ∧ (parseMethodDescriptor yX3_write.desc).map (fun d => d.parameters.length) = some 2 := by decide +kernel
theorem de_X4_acceptedBy : yX4_acceptedBy.cls ≠ "java/lang/invoke/MethodHandle" ∧ yX4_acceptedBy.cls ≠ "java/lang/invoke/VarHandle" ∧ (parseMethodDescriptor yX4_acceptedBy.desc).map (fun d => d.parameters.length) = some 1 := by decide +kernel
theorem de_X4_accepts : yX4_accepts.cls ≠ "java/lang/invoke/MethodHandle" ∧ yX4_accepts.cls ≠ "java/lang/invoke/VarHandle" ∧ (parseMethodDescriptor yX4_accepts.desc).map (fun d => d.parameters.length) = some 2 := by decide +kernel
theorem de_X4_arePair : yX4_arePair.cls ≠ "java/lang/invoke/MethodHandle" ∧ yX4_arePair.cls ≠ "java/lang/invoke/VarHandle" ∧ (parseMethodDescriptor yX4_arePair.desc).map (fun d => d.parameters.length) = some 2 := by decide +kernel
theorem de_X4_ask : yX4_ask.cls ≠ "java/lang/invoke/MethodHandle" ∧ yX4_ask.cls ≠ "java/lang/invoke/VarHandle" ∧ (parseMethodDescriptor yX4_ask.desc).map (fun d => d.parameters.length) = some 0 := by decide +kernel
theorem de_X4_back : yX4_back.cls ≠ "java/lang/invoke/MethodHandle" ∧ yX4_back.cls ≠ "java/lang/invoke/VarHandle" ∧ (parseMethodDescriptor yX4_back.desc).map (fun d => d.parameters.length) = some 1 := by decide +kernel
theorem de_X4_beginRead : yX4_beginRead.cls ≠ "java/lang/invoke/MethodHandle" ∧ yX4_beginRead.cls ≠ "java/lang/invoke/VarHandle" ∧ (parseMethodDescriptor yX4_beginRead.desc).map (fun d => d.parameters.length) = some 0 := by decide +kernel
theorem de_X4_bounds : yX4_bounds.cls ≠ "java/lang/invoke/MethodHandle" ∧ yX4_bounds.cls ≠ "java/lang/invoke/VarHandle" ∧ (parseMethodDescriptor yX4_bounds.desc).map (fun d => d.parameters.length) = some 4 := by decide +kernel
theorem de_X4_budgetCell : yX4_budgetCell.cls ≠ "java/lang/invoke/MethodHandle" ∧ yX4_budgetCell.cls ≠ "java/lang/invoke/VarHandle" ∧ (parseMethodDescriptor yX4_budgetCell.desc).map (fun d => d.parameters.length) = some 2 := by decide +kernel
theorem de_X4_candidates : yX4_candidates.cls ≠ "java/lang/invoke/MethodHandle" ∧ yX4_candidates.cls ≠ "java/lang/invoke/VarHandle" ∧ (parseMethodDescriptor yX4_candidates.desc).map (fun d => d.parameters.length) = some 0 := by decide +kernel
theorem de_X4_clear : yX4_clear.cls ≠ "java/lang/invoke/MethodHandle" ∧ yX4_clear.cls ≠ "java/lang/invoke/VarHandle" ∧ (parseMethodDescriptor yX4_clear.desc).map (fun d => d.parameters.length) = some 0 := by decide +kernel
theorem de_X4_copy : yX4_copy.cls ≠ "java/lang/invoke/MethodHandle" ∧ yX4_copy.cls ≠ "java/lang/invoke/VarHandle" ∧ (parseMethodDescriptor yX4_copy.desc).map (fun d => d.parameters.length) = some 2 := by decide +kernel
theorem de_X4_copyState : yX4_copyState.cls ≠ "java/lang/invoke/MethodHandle" ∧ yX4_copyState.cls ≠ "java/lang/invoke/VarHandle" ∧ (parseMethodDescriptor yX4_copyState.desc).map (fun d => d.parameters.length) = some 4 := by decide +kernel
theorem de_X4_costs : yX4_costs.cls ≠ "java/lang/invoke/MethodHandle" ∧ yX4_costs.cls ≠ "java/lang/invoke/VarHandle" ∧ (parseMethodDescriptor yX4_costs.desc).map (fun d => d.parameters.length) = some 2 := by decide +kernel
theorem de_X4_count : yX4_count.cls ≠ "java/lang/invoke/MethodHandle" ∧ yX4_count.cls ≠ "java/lang/invoke/VarHandle" ∧ (parseMethodDescriptor yX4_count.desc).map (fun d => d.parameters.length) = some 1 := by decide +kernel
theorem de_X4_countBits : yX4_countBits.cls ≠ "java/lang/invoke/MethodHandle" ∧ yX4_countBits.cls ≠ "java/lang/invoke/VarHandle" ∧ (parseMethodDescriptor yX4_countBits.desc).map (fun d => d.parameters.length) = some 1 := by decide +kernel
theorem de_X4_evens : yX4_evens.cls ≠ "java/lang/invoke/MethodHandle" ∧ yX4_evens.cls ≠ "java/lang/invoke/VarHandle" ∧ (parseMethodDescriptor yX4_evens.desc).map (fun d => d.parameters.length) = some 1 := by decide +kernel
theorem de_X4_forget : yX4_forget.cls ≠ "java/lang/invoke/MethodHandle" ∧ yX4_forget.cls ≠ "java/lang/invoke/VarHandle" ∧ (parseMethodDescriptor yX4_forget.desc).map (fun d => d.parameters.length) = some 0 := by decide +kernel
theorem de_X4_fullCopies : yX4_fullCopies.cls ≠ "java/lang/invoke/MethodHandle" ∧ yX4_fullCopies.cls ≠ "java/lang/invoke/VarHandle" ∧ (parseMethodDescriptor yX4_fullCopies.desc).map (fun d => d.parameters.length) = some 0 := by decide +kernel
theorem de_X4_heardCell : yX4_heardCell.cls ≠ "java/lang/invoke/MethodHandle" ∧ yX4_heardCell.cls ≠ "java/lang/invoke/VarHandle" ∧ (parseMethodDescriptor yX4_heardCell.desc).map (fun d => d.parameters.length) = some 2 := by decide +kernel
theorem de_X4_holders : yX4_holders.cls ≠ "java/lang/invoke/MethodHandle" ∧ yX4_holders.cls ≠ "java/lang/invoke/VarHandle" ∧ (parseMethodDescriptor yX4_holders.desc).map (fun d => d.parameters.length) = some 2 := by decide +kernel
theorem de_X4_in : yX4_in.cls ≠ "java/lang/invoke/MethodHandle" ∧ yX4_in.cls ≠ "java/lang/invoke/VarHandle" ∧ (parseMethodDescriptor yX4_in.desc).map (fun d => d.parameters.length) = some 3 := by decide +kernel
theorem de_X4_init : yX4_init.cls ≠ "java/lang/invoke/MethodHandle" ∧ yX4_init.cls ≠ "java/lang/invoke/VarHandle" ∧ (parseMethodDescriptor yX4_init.desc).map (fun d => d.parameters.length) = some 0 := by decide +kernel
theorem de_X4_isCopy : yX4_isCopy.cls ≠ "java/lang/invoke/MethodHandle" ∧ yX4_isCopy.cls ≠ "java/lang/invoke/VarHandle" ∧ (parseMethodDescriptor yX4_isCopy.desc).map (fun d => d.parameters.length) = some 1 := by decide +kernel
theorem de_X4_isDigit : yX4_isDigit.cls ≠ "java/lang/invoke/MethodHandle" ∧ yX4_isDigit.cls ≠ "java/lang/invoke/VarHandle" ∧ (parseMethodDescriptor yX4_isDigit.desc).map (fun d => d.parameters.length) = some 0 := by decide +kernel
theorem de_X4_isLetter : yX4_isLetter.cls ≠ "java/lang/invoke/MethodHandle" ∧ yX4_isLetter.cls ≠ "java/lang/invoke/VarHandle" ∧ (parseMethodDescriptor yX4_isLetter.desc).map (fun d => d.parameters.length) = some 0 := by decide +kernel
theorem de_X4_keep : yX4_keep.cls ≠ "java/lang/invoke/MethodHandle" ∧ yX4_keep.cls ≠ "java/lang/invoke/VarHandle" ∧ (parseMethodDescriptor yX4_keep.desc).map (fun d => d.parameters.length) = some 1 := by decide +kernel
theorem de_X4_keepZeroFast : yX4_keepZeroFast.cls ≠ "java/lang/invoke/MethodHandle" ∧ yX4_keepZeroFast.cls ≠ "java/lang/invoke/VarHandle" ∧ (parseMethodDescriptor yX4_keepZeroFast.desc).map (fun d => d.parameters.length) = some 0 := by decide +kernel
theorem de_X4_largestGroup : yX4_largestGroup.cls ≠ "java/lang/invoke/MethodHandle" ∧ yX4_largestGroup.cls ≠ "java/lang/invoke/VarHandle" ∧ (parseMethodDescriptor yX4_largestGroup.desc).map (fun d => d.parameters.length) = some 2 := by decide +kernel
theorem de_X4_left : yX4_left.cls ≠ "java/lang/invoke/MethodHandle" ∧ yX4_left.cls ≠ "java/lang/invoke/VarHandle" ∧ (parseMethodDescriptor yX4_left.desc).map (fun d => d.parameters.length) = some 2 := by decide +kernel
theorem de_X4_moves : yX4_moves.cls ≠ "java/lang/invoke/MethodHandle" ∧ yX4_moves.cls ≠ "java/lang/invoke/VarHandle" ∧ (parseMethodDescriptor yX4_moves.desc).map (fun d => d.parameters.length) = some 4 := by decide +kernel
theorem de_X4_next : yX4_next.cls ≠ "java/lang/invoke/MethodHandle" ∧ yX4_next.cls ≠ "java/lang/invoke/VarHandle" ∧ (parseMethodDescriptor yX4_next.desc).map (fun d => d.parameters.length) = some 0 := by decide +kernel
theorem de_X4_owed : yX4_owed.cls ≠ "java/lang/invoke/MethodHandle" ∧ yX4_owed.cls ≠ "java/lang/invoke/VarHandle" ∧ (parseMethodDescriptor yX4_owed.desc).map (fun d => d.parameters.length) = some 2 := by decide +kernel
theorem de_X4_pair : yX4_pair.cls ≠ "java/lang/invoke/MethodHandle" ∧ yX4_pair.cls ≠ "java/lang/invoke/VarHandle" ∧ (parseMethodDescriptor yX4_pair.desc).map (fun d => d.parameters.length) = some 3 := by decide +kernel
theorem de_X4_parse : yX4_parse.cls ≠ "java/lang/invoke/MethodHandle" ∧ yX4_parse.cls ≠ "java/lang/invoke/VarHandle" ∧ (parseMethodDescriptor yX4_parse.desc).map (fun d => d.parameters.length) = some 0 := by decide +kernel
theorem de_X4_passes : yX4_passes.cls ≠ "java/lang/invoke/MethodHandle" ∧ yX4_passes.cls ≠ "java/lang/invoke/VarHandle" ∧ (parseMethodDescriptor yX4_passes.desc).map (fun d => d.parameters.length) = some 1 := by decide +kernel
theorem de_X4_property : yX4_property.cls ≠ "java/lang/invoke/MethodHandle" ∧ yX4_property.cls ≠ "java/lang/invoke/VarHandle" ∧ (parseMethodDescriptor yX4_property.desc).map (fun d => d.parameters.length) = some 2 := by decide +kernel
theorem de_X4_pull : yX4_pull.cls ≠ "java/lang/invoke/MethodHandle" ∧ yX4_pull.cls ≠ "java/lang/invoke/VarHandle" ∧ (parseMethodDescriptor yX4_pull.desc).map (fun d => d.parameters.length) = some 2 := by decide +kernel
theorem de_X4_pulls : yX4_pulls.cls ≠ "java/lang/invoke/MethodHandle" ∧ yX4_pulls.cls ≠ "java/lang/invoke/VarHandle" ∧ (parseMethodDescriptor yX4_pulls.desc).map (fun d => d.parameters.length) = some 2 := by decide +kernel
theorem de_X4_push : yX4_push.cls ≠ "java/lang/invoke/MethodHandle" ∧ yX4_push.cls ≠ "java/lang/invoke/VarHandle" ∧ (parseMethodDescriptor yX4_push.desc).map (fun d => d.parameters.length) = some 2 := by decide +kernel
theorem de_X4_readBounds : yX4_readBounds.cls ≠ "java/lang/invoke/MethodHandle" ∧ yX4_readBounds.cls ≠ "java/lang/invoke/VarHandle" ∧ (parseMethodDescriptor yX4_readBounds.desc).map (fun d => d.parameters.length) = some 0 := by decide +kernel
theorem de_X4_readBy : yX4_readBy.cls ≠ "java/lang/invoke/MethodHandle" ∧ yX4_readBy.cls ≠ "java/lang/invoke/VarHandle" ∧ (parseMethodDescriptor yX4_readBy.desc).map (fun d => d.parameters.length) = some 1 := by decide +kernel
theorem de_X4_readCost : yX4_readCost.cls ≠ "java/lang/invoke/MethodHandle" ∧ yX4_readCost.cls ≠ "java/lang/invoke/VarHandle" ∧ (parseMethodDescriptor yX4_readCost.desc).map (fun d => d.parameters.length) = some 1 := by decide +kernel
theorem de_X4_readItem : yX4_readItem.cls ≠ "java/lang/invoke/MethodHandle" ∧ yX4_readItem.cls ≠ "java/lang/invoke/VarHandle" ∧ (parseMethodDescriptor yX4_readItem.desc).map (fun d => d.parameters.length) = some 1 := by decide +kernel
theorem de_X4_readNumber : yX4_readNumber.cls ≠ "java/lang/invoke/MethodHandle" ∧ yX4_readNumber.cls ≠ "java/lang/invoke/VarHandle" ∧ (parseMethodDescriptor yX4_readNumber.desc).map (fun d => d.parameters.length) = some 2 := by decide +kernel
theorem de_X4_reads : yX4_reads.cls ≠ "java/lang/invoke/MethodHandle" ∧ yX4_reads.cls ≠ "java/lang/invoke/VarHandle" ∧ (parseMethodDescriptor yX4_reads.desc).map (fun d => d.parameters.length) = some 1 := by decide +kernel
theorem de_X4_save : yX4_save.cls ≠ "java/lang/invoke/MethodHandle" ∧ yX4_save.cls ≠ "java/lang/invoke/VarHandle" ∧ (parseMethodDescriptor yX4_save.desc).map (fun d => d.parameters.length) = some 0 := by decide +kernel
theorem de_X4_sees : yX4_sees.cls ≠ "java/lang/invoke/MethodHandle" ∧ yX4_sees.cls ≠ "java/lang/invoke/VarHandle" ∧ (parseMethodDescriptor yX4_sees.desc).map (fun d => d.parameters.length) = some 2 := by decide +kernel
theorem de_X4_setBudgets : yX4_setBudgets.cls ≠ "java/lang/invoke/MethodHandle" ∧ yX4_setBudgets.cls ≠ "java/lang/invoke/VarHandle" ∧ (parseMethodDescriptor yX4_setBudgets.desc).map (fun d => d.parameters.length) = some 1 := by decide +kernel
theorem de_X4_setBudgetsFor : yX4_setBudgetsFor.cls ≠ "java/lang/invoke/MethodHandle" ∧ yX4_setBudgetsFor.cls ≠ "java/lang/invoke/VarHandle" ∧ (parseMethodDescriptor yX4_setBudgetsFor.desc).map (fun d => d.parameters.length) = some 2 := by decide +kernel
theorem de_X4_slowCount : yX4_slowCount.cls ≠ "java/lang/invoke/MethodHandle" ∧ yX4_slowCount.cls ≠ "java/lang/invoke/VarHandle" ∧ (parseMethodDescriptor yX4_slowCount.desc).map (fun d => d.parameters.length) = some 1 := by decide +kernel
theorem de_X4_spare : yX4_spare.cls ≠ "java/lang/invoke/MethodHandle" ∧ yX4_spare.cls ≠ "java/lang/invoke/VarHandle" ∧ (parseMethodDescriptor yX4_spare.desc).map (fun d => d.parameters.length) = some 1 := by decide +kernel
theorem de_X4_sumOf : yX4_sumOf.cls ≠ "java/lang/invoke/MethodHandle" ∧ yX4_sumOf.cls ≠ "java/lang/invoke/VarHandle" ∧ (parseMethodDescriptor yX4_sumOf.desc).map (fun d => d.parameters.length) = some 1 := by decide +kernel
theorem de_X4_tells : yX4_tells.cls ≠ "java/lang/invoke/MethodHandle" ∧ yX4_tells.cls ≠ "java/lang/invoke/VarHandle" ∧ (parseMethodDescriptor yX4_tells.desc).map (fun d => d.parameters.length) = some 0 := by decide +kernel
theorem de_X4_type : yX4_type.cls ≠ "java/lang/invoke/MethodHandle" ∧ yX4_type.cls ≠ "java/lang/invoke/VarHandle" ∧ (parseMethodDescriptor yX4_type.desc).map (fun d => d.parameters.length) = some 1 := by decide +kernel
theorem de_X4_undo : yX4_undo.cls ≠ "java/lang/invoke/MethodHandle" ∧ yX4_undo.cls ≠ "java/lang/invoke/VarHandle" ∧ (parseMethodDescriptor yX4_undo.desc).map (fun d => d.parameters.length) = some 0 := by decide +kernel
theorem de_X4_weight : yX4_weight.cls ≠ "java/lang/invoke/MethodHandle" ∧ yX4_weight.cls ≠ "java/lang/invoke/VarHandle" ∧ (parseMethodDescriptor yX4_weight.desc).map (fun d => d.parameters.length) = some 1 := by decide +kernel
theorem de_X4_which : yX4_which.cls ≠ "java/lang/invoke/MethodHandle" ∧ yX4_which.cls ≠ "java/lang/invoke/VarHandle" ∧ (parseMethodDescriptor yX4_which.desc).map (fun d => d.parameters.length) = some 0 := by decide +kernel
theorem de_X4_wordToken : yX4_wordToken.cls ≠ "java/lang/invoke/MethodHandle" ∧ yX4_wordToken.cls ≠ "java/lang/invoke/VarHandle" ∧ (parseMethodDescriptor yX4_wordToken.desc).map (fun d => d.parameters.length) = some 0 := by decide +kernel
theorem de_X4_write : yX4_write.cls ≠ "java/lang/invoke/MethodHandle" ∧ yX4_write.cls ≠ "java/lang/invoke/VarHandle" ∧ (parseMethodDescriptor yX4_write.desc).map (fun d => d.parameters.length) = some 2 := by decide +kernel
end
section
set_option maxHeartbeats 4000000 in
set_option maxRecDepth 100000 in
theorem k_X3_slot {X : Cx} {l : Launch} {σ : Hp} {a c : Nat} : Con X l yX3_slot cX3_slot 2 (some .int) 0 [.int (nI a), .int (nI c)] σ (Ex (some (.int (nI (a * 4 + c)))) σ) := by
  refine Con_of [some (.int (nI a)), some (.int (nI c))] (by decide) rfl (Nat.le_of_ble_eq_true rfl) ?_
  refine T_iload_n dX3_slot_0 rfl rfl ?_
  refine T_iconst (v := nI 4) dX3_slot_1 rfl ?_
  first | refine T_imulN dX3_slot_2 ?_ | refine T_imul dX3_slot_2 ?_
  refine T_iload_n dX3_slot_3 rfl rfl ?_
  first | refine T_iaddN dX3_slot_4 ?_ | refine T_iadd dX3_slot_4 ?_
  refine T_iret rfl dX3_slot_5 ?_
  exact ⟨rfl, rfl⟩
set_option maxHeartbeats 4000000 in
set_option maxRecDepth 100000 in
theorem k_X3_hasBit {X : Cx} {l : Launch} {σ : Hp} {s : Int32} {w : Nat} : Con X l yX3_hasBit cX3_hasBit 2 (some .boolean) 0 [.int s, .int (nI w)] σ (Ex (some (.int (if bit s w then nI 1 else nI 0))) σ) := by
  refine Con_of [some (.int s), some (.int (nI w))] (by decide) rfl (Nat.le_of_ble_eq_true rfl) ?_
  refine T_iload_n dX3_hasBit_0 rfl rfl ?_
  refine T_iload_n dX3_hasBit_1 rfl rfl ?_
  refine T_ishr dX3_hasBit_2 ?_
  refine T_iconst (v := nI 1) dX3_hasBit_3 rfl ?_
  refine T_iand dX3_hasBit_4 ?_
  refine T_iconst (v := nI 1) dX3_hasBit_5 rfl ?_
  refine T_icmp_ne 13 dX3_hasBit_6 (by decide) (fun h6 => ?_) (fun h6 => ?_)
  · refine T_iconst (v := nI 0) dX3_hasBit_13 rfl ?_
    refine T_zret (ty := .boolean) rfl (by decide) dX3_hasBit_14 ?_
    exact ⟨by first | rw [if_neg h6] | rw [if_pos h6], rfl⟩
  · refine T_iconst (v := nI 1) dX3_hasBit_9 rfl ?_
    refine T_goto 14 dX3_hasBit_10 (by decide) ?_
    refine T_zret (ty := .boolean) rfl (by decide) dX3_hasBit_14 ?_
    exact ⟨by first | rw [if_neg h6] | rw [if_pos h6], rfl⟩
set_option maxHeartbeats 4000000 in
set_option maxRecDepth 100000 in
theorem k_X1_allWrites {X : Cx} {l : Launch} {σ0 : Hp} {h : Rg} {r : Nat} (hv1 : Lv X 1 r) : Con X l yX1_allWrites cX1_allWrites 1 (some .int) 0 [.ref (adr X 1 r 0)] (setR σ0 1 r h) (Ex (some (.int (allS h))) (setR σ0 1 r h)) := by
  refine Con_of [some (.ref (adr X 1 r 0))] (by decide) rfl (Nat.le_of_ble_eq_true rfl) ?_
  refine T_iconst (v := nI 1) dX1_allWrites_0 rfl ?_
  refine T_aload_n dX1_allWrites_1 rfl rfl ?_
  refine T_g1F hv1 2 (by decide) fl_X1_55 rfl dX1_allWrites_2 ?_
  refine T_ishl dX1_allWrites_5 ?_
  refine T_iconst (v := nI 1) dX1_allWrites_6 rfl ?_
  refine T_isub dX1_allWrites_7 ?_
  refine T_iret rfl dX1_allWrites_8 ?_
  exact ⟨rfl, rfl⟩
set_option maxHeartbeats 4000000 in
set_option maxRecDepth 100000 in
theorem k_X1_weightOf {X : Cx} {l : Launch} {σ0 : Hp} {h : Rg} {r : Nat} {s : Int32} (hv1 : Lv X 1 r) (hw : Wf h) : Con X l yX1_weightOf cX1_weightOf 4 (some .int) 1 [.ref (adr X 1 r 0), .int s] (setR σ0 1 r h) (Ex (some (.int (wSum (h 10) s (nW h)))) (setR σ0 1 r h)) := by
  refine Con_of [some (.ref (adr X 1 r 0)), some (.int s), none, none] (by decide) rfl (Nat.le_of_ble_eq_true rfl) ?_
  have hW := hw.2.2.2.2
  have hlp : ∀ n k : Nat, k + n = nW h → T X l yX1_weightOf cX1_weightOf 4 (some .int) 1 4 [some (.ref (adr X 1 r 0)), some (.int s), some (.int (wSum (h 10) s k)), some (.int (nI k))] [] (setR σ0 1 r h) (Ex (some (.int (wSum (h 10) s (nW h)))) (setR σ0 1 r h)) := by
    intro n
    induction n with
    | zero =>
      intro k hk
      have hk : k = nW h := by omega
      subst hk
      refine T_iload_n dX1_weightOf_4 rfl rfl ?_
      refine T_aload_n dX1_weightOf_5 rfl rfl ?_
      refine T_g1F hv1 2 (by decide) fl_X1_55 rfl dX1_weightOf_6 ?_
      refine T_icmp_ge 35 dX1_weightOf_9 (by decide) (fun h9 => ?_) (fun h9 => (absurd (by rw [hw.2.2.2.1]; exact nI_le (Nat.le_refl _) (by omega)) h9))
      refine T_iload_n dX1_weightOf_35 rfl rfl ?_
      refine T_iret rfl dX1_weightOf_36 ?_
      exact ⟨rfl, rfl⟩
    | succ n ih =>
      intro k hk
      have hnx := ih (k + 1) (by omega)
      have hk : k < nW h := by omega
      refine T_iload_n dX1_weightOf_4 rfl rfl ?_
      refine T_aload_n dX1_weightOf_5 rfl rfl ?_
      refine T_g1F hv1 2 (by decide) fl_X1_55 rfl dX1_weightOf_6 ?_
      refine T_icmp_ge 35 dX1_weightOf_9 (by decide) (fun h9 => (absurd (hw.2.2.2.1 ▸ h9) (nI_ge hk (by omega)))) (fun h9 => ?_)
      refine T_iload_n dX1_weightOf_12 rfl rfl ?_
      refine T_iload_n dX1_weightOf_13 rfl rfl ?_
      refine T_callSN k_X3_hasBit (fun _ h => h.2.2.2.1) sm_yX3_hasBit ini_RX3 co_yX3_hasBit de_X3_hasBit (by decide) (by decide) rfl (Nat.le_of_ble_eq_true rfl) dX1_weightOf_14 ?_
      refine T_if_eq 29 dX1_weightOf_17 (by decide) (fun h17 => ?_) (fun h17 => ?_)
      · first | refine T_iincN3 dX1_weightOf_29 rfl (by decide) ?_ | refine T_iinc3 dX1_weightOf_29 rfl rfl (by decide) ?_
        refine T_goto 4 dX1_weightOf_32 (by decide) ?_
        first | (rw [wSum, if_pos (b01_1 h17)] at hnx; exact hnx) | (rw [wSum, if_neg (b01_0 h17)] at hnx; exact hnx)
      · refine T_iload_n dX1_weightOf_20 rfl rfl ?_
        refine T_aload_n dX1_weightOf_21 rfl rfl ?_
        refine T_g1F hv1 12 (by decide) fl_X1_39 rfl dX1_weightOf_22 ?_
        refine T_iload_n dX1_weightOf_25 rfl rfl ?_
        refine T_ialdF (hv1 _ (by decide)) rfl (Nat.le_of_ble_eq_true rfl) _ (by omega) rfl dX1_weightOf_26 ?_
        first | refine T_iaddN dX1_weightOf_27 ?_ | refine T_iadd dX1_weightOf_27 ?_
        refine T_istore2 dX1_weightOf_28 rfl (by decide) ?_
        first | refine T_iincN3 dX1_weightOf_29 rfl (by decide) ?_ | refine T_iinc3 dX1_weightOf_29 rfl rfl (by decide) ?_
        refine T_goto 4 dX1_weightOf_32 (by decide) ?_
        first | (rw [wSum, if_pos (b01_1 h17)] at hnx; exact hnx) | (rw [wSum, if_neg (b01_0 h17)] at hnx; exact hnx)
  refine T_iconst (v := nI 0) dX1_weightOf_0 rfl ?_
  refine T_istore2 dX1_weightOf_1 rfl (by decide) ?_
  refine T_iconst (v := nI 0) dX1_weightOf_2 rfl ?_
  refine T_istore3 dX1_weightOf_3 rfl (by decide) ?_
  exact hlp (nW h) 0 (by omega)
set_option maxHeartbeats 4000000 in
set_option maxRecDepth 100000 in
theorem k_X1_writesBy {X : Cx} {l : Launch} {σ0 : Hp} {h : Rg} {r : Nat} {c : Nat} (hv1 : Lv X 1 r) (hw : Wf h) : Con X l yX1_writesBy cX1_writesBy 4 (some .int) 0 [.ref (adr X 1 r 0), .int (nI c)] (setR σ0 1 r h) (Ex (some (.int (wBy (h 8) (nI c) (nW h)))) (setR σ0 1 r h)) := by
  refine Con_of [some (.ref (adr X 1 r 0)), some (.int (nI c)), none, none] (by decide) rfl (Nat.le_of_ble_eq_true rfl) ?_
  have hW := hw.2.2.2.2
  have hlp : ∀ n k : Nat, k + n = nW h → T X l yX1_writesBy cX1_writesBy 4 (some .int) 0 4 [some (.ref (adr X 1 r 0)), some (.int (nI c)), some (.int (wBy (h 8) (nI c) k)), some (.int (nI k))] [] (setR σ0 1 r h) (Ex (some (.int (wBy (h 8) (nI c) (nW h)))) (setR σ0 1 r h)) := by
    intro n
    induction n with
    | zero =>
      intro k hk
      have hk : k = nW h := by omega
      subst hk
      refine T_iload_n dX1_writesBy_4 rfl rfl ?_
      refine T_aload_n dX1_writesBy_5 rfl rfl ?_
      refine T_g1F hv1 2 (by decide) fl_X1_55 rfl dX1_writesBy_6 ?_
      refine T_icmp_ge 34 dX1_writesBy_9 (by decide) (fun h9 => ?_) (fun h9 => (absurd (by rw [hw.2.2.2.1]; exact nI_le (Nat.le_refl _) (by omega)) h9))
      refine T_iload_n dX1_writesBy_34 rfl rfl ?_
      refine T_iret rfl dX1_writesBy_35 ?_
      exact ⟨rfl, rfl⟩
    | succ n ih =>
      intro k hk
      have hnx := ih (k + 1) (by omega)
      have hk : k < nW h := by omega
      refine T_iload_n dX1_writesBy_4 rfl rfl ?_
      refine T_aload_n dX1_writesBy_5 rfl rfl ?_
      refine T_g1F hv1 2 (by decide) fl_X1_55 rfl dX1_writesBy_6 ?_
      refine T_icmp_ge 34 dX1_writesBy_9 (by decide) (fun h9 => (absurd (hw.2.2.2.1 ▸ h9) (nI_ge hk (by omega)))) (fun h9 => ?_)
      refine T_aload_n dX1_writesBy_12 rfl rfl ?_
      refine T_g1F hv1 10 (by decide) fl_X1_33 rfl dX1_writesBy_13 ?_
      refine T_iload_n dX1_writesBy_16 rfl rfl ?_
      refine T_ialdF (hv1 _ (by decide)) rfl (Nat.le_of_ble_eq_true rfl) _ (by omega) rfl dX1_writesBy_17 ?_
      refine T_iload_n dX1_writesBy_18 rfl rfl ?_
      refine T_icmp_ne 28 dX1_writesBy_19 (by decide) (fun h19 => ?_) (fun h19 => ?_)
      · first | refine T_iincN3 dX1_writesBy_28 rfl (by decide) ?_ | refine T_iinc3 dX1_writesBy_28 rfl rfl (by decide) ?_
        refine T_goto 4 dX1_writesBy_31 (by decide) ?_
        first | (rw [wBy, if_pos h19] at hnx; exact hnx) | (rw [wBy, if_neg h19] at hnx; exact hnx)
      · refine T_iload_n dX1_writesBy_22 rfl rfl ?_
        refine T_iconst (v := nI 1) dX1_writesBy_23 rfl ?_
        refine T_iload_n dX1_writesBy_24 rfl rfl ?_
        refine T_ishl dX1_writesBy_25 ?_
        refine T_ior dX1_writesBy_26 ?_
        refine T_istore2 dX1_writesBy_27 rfl (by decide) ?_
        first | refine T_iincN3 dX1_writesBy_28 rfl (by decide) ?_ | refine T_iinc3 dX1_writesBy_28 rfl rfl (by decide) ?_
        refine T_goto 4 dX1_writesBy_31 (by decide) ?_
        first | (rw [wBy, if_pos h19] at hnx; exact hnx) | (rw [wBy, if_neg h19] at hnx; exact hnx)
  refine T_iconst (v := nI 0) dX1_writesBy_0 rfl ?_
  refine T_istore2 dX1_writesBy_1 rfl (by decide) ?_
  refine T_iconst (v := nI 0) dX1_writesBy_2 rfl ?_
  refine T_istore3 dX1_writesBy_3 rfl (by decide) ?_
  exact hlp (nW h) 0 (by omega)
end
section

theorem nIe {a b : Nat} (h : nI a = nI b) (ha : a < 2 ^ 31) (hb : b < 2 ^ 31) : a = b := (nI_eq ha hb).mp h
theorem nIn {a b : Nat} (h : ¬ nI a = nI b) : ¬ a = b := fun e => h (congrArg nI e)
theorem nope1 (h : nI 1 = 0) : False := absurd h (by decide)
theorem nope0 (h : ¬ nI 0 = 0) : False := h (by decide)
theorem an0 {A B C : Prop} (a : A) (b : B) (c : C) : A ∧ B ∧ C := ⟨a, b, c⟩
theorem an1 {A B C : Prop} (h : ¬ A) : ¬ (A ∧ B ∧ C) := fun q => h q.1
theorem an2 {A B C : Prop} (h : ¬ B) : ¬ (A ∧ B ∧ C) := fun q => h q.2.1
theorem an3 {A B C : Prop} (h : ¬ C) : ¬ (A ∧ B ∧ C) := fun q => h q.2.2
theorem n07 : ¬ 0 = 7 := by decide
theorem up1_id (h : Rg) (k : Nat) : up1 h k (h k) = h := by
  funext k'
  unfold up1
  split
  · rename_i e; rw [e]
  · rfl
theorem up2_of1 (h : Rg) (k j : Nat) (g : Nat → Int32) (v : Int32) : up2 (up1 h k g) k j v = up1 h k (upd g j v) := by
  funext k'
  unfold up2
  rw [up1_same]
  unfold up1
  split <;> rfl
theorem learnS_0 (h : Rg) (a : Nat) (s : Int32) : learnS h a s 0 = h 0 := rfl
theorem pushS_0 (h : Rg) (c a : Nat) : pushS h c a 0 = h 0 := rfl
theorem accS_0 (h : Rg) (c : Nat) : ∀ n, (accS h c n).1 0 = h 0
  | 0 => rfl
  | n + 1 => by
    rw [accS]
    split
    · exact accS_0 h c n
    · split
      · exact accS_0 h c n
      · exact accS_0 h c n
theorem bndS_0 (h : Rg) (a : Nat) : ∀ n, (bndS h a n).1 0 = h 0
  | 0 => rfl
  | n + 1 => by
    rw [bndS]
    split
    · exact bndS_0 h a n
    · split
      · exact bndS_0 h a n
      · exact bndS_0 h a n
theorem heaS_k (h : Rg) (a c : Nat) {j : Nat} (hj : ¬ j = 6) : ∀ n, heaS h a c n j = h j
  | 0 => rfl
  | n + 1 => by
    rw [heaS]
    split
    · exact heaS_k h a c hj n
    · split
      · exact heaS_k h a c hj n
      · rw [up2_ne hj]; exact heaS_k h a c hj n
theorem pul0S_0 (h : Rg) (a c : Nat) : pul0S h a c 0 = h 0 := rfl
theorem pullS_0 (h : Rg) (a c : Nat) : pullS h a c 0 = h 0 := by
  unfold pullS
  rw [heaS_k _ _ _ (by decide)]
  rfl
theorem redS_0 (h : Rg) (a : Nat) : ∀ n, (redS h a n).1 0 = h 0
  | 0 => rfl
  | n + 1 => by
    rw [redS]
    split
    · exact redS_0 h a n
    · split
      · exact redS_0 h a n
      · show pullS _ _ _ 0 = _
        rw [pullS_0]; exact redS_0 h a n
theorem splS_k (h : Rg) (a : Nat) {j : Nat} (hj : ¬ j = 7) : ∀ n, splS h a n j = h j
  | 0 => rfl
  | n + 1 => by
    rw [splS]
    split
    · exact splS_k h a hj n
    · rw [up2_ne hj]; exact splS_k h a hj n
theorem spaS_k (h : Rg) {j : Nat} (hj : ¬ j = 7) : ∀ n, spaS h n j = h j
  | 0 => rfl
  | n + 1 => by
    rw [spaS, splS_k _ _ hj]; exact spaS_k h hj n
theorem eveS_k (h : Rg) (a : Nat) (t : Int32) {j : Nat} (hj : ¬ j = 7) : ∀ n, eveS h a t n j = h j
  | 0 => rfl
  | n + 1 => by
    rw [eveS]
    split
    · exact eveS_k h a t hj n
    · rw [up2_ne hj]; exact eveS_k h a t hj n
theorem newWS_W {h : Rg} (hw : Wf h) (hM : nW h < 24) (c : Nat) (w : Int32) : Wf (newWS h c w) ∧ nC (newWS h c w) = nC h ∧ nW (newWS h c w) = nW h + 1 := by
  have e0 : newWS h c w 0 0 = h 0 0 := rfl
  have e2 : newWS h c w 0 2 = h 0 2 + nI 1 := rfl
  have e3 : newWS h c w 0 2 = nI (nW h + 1) := by rw [e2, hw.2.2.2.1, nI_add]
  have c0 : nC (newWS h c w) = nC h := by unfold nC; rw [e0]
  have c2 : nW (newWS h c w) = nW h + 1 := by
    have : nW (newWS h c w) = (newWS h c w 0 2).toNatClampNeg := rfl
    rw [this, e3, nI_clamp (by omega)]
  exact ⟨⟨by rw [c0, e0]; exact hw.1, by rw [c0]; exact hw.2.1, by rw [c0]; exact hw.2.2.1, by rw [c2]; exact e3, by rw [c2]; omega⟩, c0, c2⟩

set_option maxHeartbeats 4000000 in
set_option maxRecDepth 100000 in
theorem k_J6_bitCount_0f7a4 {X : Cx} {l : Launch} {σ : Hp} {i : Int32} : Con X l yJ6_bitCount_0f7a4 cJ6_bitCount_0f7a4 1 (some .int) 0 [.int i] σ (Ex (some (.int (popS i))) σ) := by
  refine Con_of [some (.int i)] (by decide) rfl (Nat.le_of_ble_eq_true rfl) ?_
  refine T_iload_n dJ6_bitCount_0f7a4_0 rfl rfl ?_
  refine T_iload_n dJ6_bitCount_0f7a4_1 rfl rfl ?_
  refine T_iconst (v := nI 1) dJ6_bitCount_0f7a4_2 rfl ?_
  refine T_iushr dJ6_bitCount_0f7a4_3 rfl ?_
  refine T_ldcw con_RJ6_265__1431655765_ dJ6_bitCount_0f7a4_4 ?_
  refine T_iand dJ6_bitCount_0f7a4_7 ?_
  refine T_isub dJ6_bitCount_0f7a4_8 ?_
  refine T_istore0 dJ6_bitCount_0f7a4_9 rfl (by decide) ?_
  refine T_iload_n dJ6_bitCount_0f7a4_10 rfl rfl ?_
  refine T_ldcw con_RJ6_266__858993459_ dJ6_bitCount_0f7a4_11 ?_
  refine T_iand dJ6_bitCount_0f7a4_14 ?_
  refine T_iload_n dJ6_bitCount_0f7a4_15 rfl rfl ?_
  refine T_iconst (v := nI 2) dJ6_bitCount_0f7a4_16 rfl ?_
  refine T_iushr dJ6_bitCount_0f7a4_17 rfl ?_
  refine T_ldcw con_RJ6_266__858993459_ dJ6_bitCount_0f7a4_18 ?_
  refine T_iand dJ6_bitCount_0f7a4_21 ?_
  refine T_iadd dJ6_bitCount_0f7a4_22 ?_
  refine T_istore0 dJ6_bitCount_0f7a4_23 rfl (by decide) ?_
  refine T_iload_n dJ6_bitCount_0f7a4_24 rfl rfl ?_
  refine T_iload_n dJ6_bitCount_0f7a4_25 rfl rfl ?_
  refine T_iconst (v := nI 4) dJ6_bitCount_0f7a4_26 rfl ?_
  refine T_iushr dJ6_bitCount_0f7a4_27 rfl ?_
  refine T_iadd dJ6_bitCount_0f7a4_28 ?_
  refine T_ldcw con_RJ6_267__252645135_ dJ6_bitCount_0f7a4_29 ?_
  refine T_iand dJ6_bitCount_0f7a4_32 ?_
  refine T_istore0 dJ6_bitCount_0f7a4_33 rfl (by decide) ?_
  refine T_iload_n dJ6_bitCount_0f7a4_34 rfl rfl ?_
  refine T_iload_n dJ6_bitCount_0f7a4_35 rfl rfl ?_
  refine T_bipush (v := nI 8) dJ6_bitCount_0f7a4_36 (by decide) ?_
  refine T_iushr dJ6_bitCount_0f7a4_38 rfl ?_
  refine T_iadd dJ6_bitCount_0f7a4_39 ?_
  refine T_istore0 dJ6_bitCount_0f7a4_40 rfl (by decide) ?_
  refine T_iload_n dJ6_bitCount_0f7a4_41 rfl rfl ?_
  refine T_iload_n dJ6_bitCount_0f7a4_42 rfl rfl ?_
  refine T_bipush (v := nI 16) dJ6_bitCount_0f7a4_43 (by decide) ?_
  refine T_iushr dJ6_bitCount_0f7a4_45 rfl ?_
  refine T_iadd dJ6_bitCount_0f7a4_46 ?_
  refine T_istore0 dJ6_bitCount_0f7a4_47 rfl (by decide) ?_
  refine T_iload_n dJ6_bitCount_0f7a4_48 rfl rfl ?_
  refine T_bipush (v := nI 63) dJ6_bitCount_0f7a4_49 (by decide) ?_
  refine T_iand dJ6_bitCount_0f7a4_51 ?_
  refine T_iret rfl dJ6_bitCount_0f7a4_52 ?_
  exact ⟨rfl, rfl⟩
set_option maxHeartbeats 4000000 in
set_option maxRecDepth 100000 in
theorem k_X1_sum {X : Cx} {l : Launch} {σ0 : Hp} {h : Rg} {r : Nat} {c : Nat} (hv1 : Lv X 1 r) (hw : Wf h) (hc : c < 4) : Con X l yX1_sum cX1_sum 2 (some .int) 2 [.ref (adr X 1 r 0), .int (nI c)] (setR σ0 1 r h) (Ex (some (.int (wSum (h 10) (h 4 c) (nW h)))) (setR σ0 1 r h)) := by
  refine Con_of [some (.ref (adr X 1 r 0)), some (.int (nI c))] (by decide) rfl (Nat.le_of_ble_eq_true rfl) ?_
  refine T_aload_n dX1_sum_0 rfl rfl ?_
  refine T_aload_n dX1_sum_1 rfl rfl ?_
  refine T_g1F hv1 6 (by decide) fl_X1_21 rfl dX1_sum_2 ?_
  refine T_iload_n dX1_sum_5 rfl rfl ?_
  refine T_ialdF (hv1 _ (by decide)) rfl (Nat.le_of_ble_eq_true rfl) _ (by omega) rfl dX1_sum_6 ?_
  refine T_vi (Rc_of (hv1 0 (by decide)) rfl rfl) (k_X1_weightOf hv1 hw) ml_X1_86 im_yX1_weightOf se_RX1_yX1_weightOf ini_RX1 co_yX1_weightOf rfl de_X1_weightOf (by decide) (by decide) rfl (Nat.le_of_ble_eq_true rfl) dX1_sum_7 ?_
  refine T_iret rfl dX1_sum_10 ?_
  exact ⟨rfl, rfl⟩
set_option maxHeartbeats 4000000 in
set_option maxRecDepth 100000 in
theorem k_X1_lack {X : Cx} {l : Launch} {σ0 : Hp} {h : Rg} {r : Nat} {c : Nat} (hv1 : Lv X 1 r) (hw : Wf h) (hc : c < 4) : Con X l yX1_lack cX1_lack 2 (some .int) 2 [.ref (adr X 1 r 0), .int (nI c)] (setR σ0 1 r h) (Ex (some (.int (wSum (h 10) (allS h &&& (h 4 c ^^^ -1)) (nW h)))) (setR σ0 1 r h)) := by
  refine Con_of [some (.ref (adr X 1 r 0)), some (.int (nI c))] (by decide) rfl (Nat.le_of_ble_eq_true rfl) ?_
  refine T_aload_n dX1_lack_0 rfl rfl ?_
  refine T_aload_n dX1_lack_1 rfl rfl ?_
  refine T_vi (Rc_of (hv1 0 (by decide)) rfl rfl) (k_X1_allWrites hv1) ml_X1_90 im_yX1_allWrites se_RX1_yX1_allWrites ini_RX1 co_yX1_allWrites rfl de_X1_allWrites (by decide) (by decide) rfl (Nat.le_of_ble_eq_true rfl) dX1_lack_2 ?_
  refine T_aload_n dX1_lack_5 rfl rfl ?_
  refine T_g1F hv1 6 (by decide) fl_X1_21 rfl dX1_lack_6 ?_
  refine T_iload_n dX1_lack_9 rfl rfl ?_
  refine T_ialdF (hv1 _ (by decide)) rfl (Nat.le_of_ble_eq_true rfl) _ (by omega) rfl dX1_lack_10 ?_
  refine T_iconst (v := -1) dX1_lack_11 rfl ?_
  refine T_ixor dX1_lack_12 ?_
  refine T_iand dX1_lack_13 ?_
  refine T_vi (Rc_of (hv1 0 (by decide)) rfl rfl) (k_X1_weightOf hv1 hw) ml_X1_86 im_yX1_weightOf se_RX1_yX1_weightOf ini_RX1 co_yX1_weightOf rfl de_X1_weightOf (by decide) (by decide) rfl (Nat.le_of_ble_eq_true rfl) dX1_lack_14 ?_
  refine T_iret rfl dX1_lack_17 ?_
  exact ⟨rfl, rfl⟩
set_option maxHeartbeats 4000000 in
set_option maxRecDepth 100000 in
theorem k_X1_slow {X : Cx} {l : Launch} {σ0 : Hp} {h : Rg} {r : Nat} {c : Nat} (hv1 : Lv X 1 r) (hc : c < 4) : Con X l yX1_slow cX1_slow 2 (some .int) 1 [.ref (adr X 1 r 0), .int (nI c)] (setR σ0 1 r h) (Ex (some (.int (slowS h c))) (setR σ0 1 r h)) := by
  refine Con_of [some (.ref (adr X 1 r 0)), some (.int (nI c))] (by decide) rfl (Nat.le_of_ble_eq_true rfl) ?_
  refine T_aload_n dX1_slow_0 rfl rfl ?_
  refine T_g1F hv1 6 (by decide) fl_X1_21 rfl dX1_slow_1 ?_
  refine T_iload_n dX1_slow_4 rfl rfl ?_
  refine T_ialdF (hv1 _ (by decide)) rfl (Nat.le_of_ble_eq_true rfl) _ (by omega) rfl dX1_slow_5 ?_
  refine T_aload_n dX1_slow_6 rfl rfl ?_
  refine T_g1F hv1 7 (by decide) fl_X1_24 rfl dX1_slow_7 ?_
  refine T_iload_n dX1_slow_10 rfl rfl ?_
  refine T_ialdF (hv1 _ (by decide)) rfl (Nat.le_of_ble_eq_true rfl) _ (by omega) rfl dX1_slow_11 ?_
  refine T_iconst (v := -1) dX1_slow_12 rfl ?_
  refine T_ixor dX1_slow_13 ?_
  refine T_iand dX1_slow_14 ?_
  refine T_si k_J6_bitCount_0f7a4 ml_X1_94 sm_yJ6_bitCount_0f7a4 ini_RJ6 co_yJ6_bitCount_0f7a4 de_J6_bitCount_0f7a4 (by decide) (by decide) rfl (Nat.le_of_ble_eq_true rfl) dX1_slow_15 ?_
  refine T_iret rfl dX1_slow_18 ?_
  exact ⟨rfl, rfl⟩
set_option maxHeartbeats 4000000 in
set_option maxRecDepth 100000 in
theorem k_X1_owed {X : Cx} {l : Launch} {σ0 : Hp} {h : Rg} {r : Nat} {c a : Nat} (hv1 : Lv X 1 r) (hw : Wf h) (hc : c < 4) (ha : a < 4) : Con X l yX1_owed cX1_owed 3 (some .int) 2 [.ref (adr X 1 r 0), .int (nI c), .int (nI a)] (setR σ0 1 r h) (Ex (some (.int (owedS h c a))) (setR σ0 1 r h)) := by
  refine Con_of [some (.ref (adr X 1 r 0)), some (.int (nI c)), some (.int (nI a))] (by decide) rfl (Nat.le_of_ble_eq_true rfl) ?_
  refine T_aload_n dX1_owed_0 rfl rfl ?_
  refine T_aload_n dX1_owed_1 rfl rfl ?_
  refine T_iload_n dX1_owed_2 rfl rfl ?_
  refine T_vi (Rc_of (hv1 0 (by decide)) rfl rfl) (k_X1_writesBy hv1 hw) ml_X1_99 im_yX1_writesBy se_RX1_yX1_writesBy ini_RX1 co_yX1_writesBy rfl de_X1_writesBy (by decide) (by decide) rfl (Nat.le_of_ble_eq_true rfl) dX1_owed_3 ?_
  refine T_aload_n dX1_owed_6 rfl rfl ?_
  refine T_g1F hv1 6 (by decide) fl_X1_21 rfl dX1_owed_7 ?_
  refine T_iload_n dX1_owed_10 rfl rfl ?_
  refine T_ialdF (hv1 _ (by decide)) rfl (Nat.le_of_ble_eq_true rfl) _ (by omega) rfl dX1_owed_11 ?_
  refine T_iconst (v := -1) dX1_owed_12 rfl ?_
  refine T_ixor dX1_owed_13 ?_
  refine T_iand dX1_owed_14 ?_
  refine T_vi (Rc_of (hv1 0 (by decide)) rfl rfl) (k_X1_weightOf hv1 hw) ml_X1_86 im_yX1_weightOf se_RX1_yX1_weightOf ini_RX1 co_yX1_weightOf rfl de_X1_weightOf (by decide) (by decide) rfl (Nat.le_of_ble_eq_true rfl) dX1_owed_15 ?_
  refine T_iret rfl dX1_owed_18 ?_
  exact ⟨rfl, rfl⟩
set_option maxHeartbeats 4000000 in
set_option maxRecDepth 100000 in
theorem k_X1_left {X : Cx} {l : Launch} {σ0 : Hp} {h : Rg} {r : Nat} {c a : Nat} (hv1 : Lv X 1 r) (hw : Wf h) (hc : c < 4) (ha : a < 4) : Con X l yX1_left cX1_left 3 (some .int) 3 [.ref (adr X 1 r 0), .int (nI c), .int (nI a)] (setR σ0 1 r h) (Ex (some (.int (leftS h c a))) (setR σ0 1 r h)) := by
  refine Con_of [some (.ref (adr X 1 r 0)), some (.int (nI c)), some (.int (nI a))] (by decide) rfl (Nat.le_of_ble_eq_true rfl) ?_
  refine T_aload_n dX1_left_0 rfl rfl ?_
  refine T_g1F hv1 9 (by decide) fl_X1_30 rfl dX1_left_1 ?_
  refine T_iload_n dX1_left_4 rfl rfl ?_
  refine T_iload_n dX1_left_5 rfl rfl ?_
  refine T_callSN k_X3_slot (fun _ h => h.2.2.1) sm_yX3_slot ini_RX3 co_yX3_slot de_X3_slot (by decide) (by decide) rfl (Nat.le_of_ble_eq_true rfl) dX1_left_6 ?_
  refine T_ialdF (hv1 _ (by decide)) rfl (Nat.le_of_ble_eq_true rfl) _ (by omega) rfl dX1_left_9 ?_
  refine T_aload_n dX1_left_10 rfl rfl ?_
  refine T_iload_n dX1_left_11 rfl rfl ?_
  refine T_iload_n dX1_left_12 rfl rfl ?_
  refine T_vi (Rc_of (hv1 0 (by decide)) rfl rfl) (k_X1_owed hv1 hw (by omega) (by omega)) ml_X1_102 im_yX1_owed se_RX1_yX1_owed ini_RX1 co_yX1_owed rfl de_X1_owed (by decide) (by decide) rfl (Nat.le_of_ble_eq_true rfl) dX1_left_13 ?_
  refine T_isub dX1_left_16 ?_
  refine T_iret rfl dX1_left_17 ?_
  exact ⟨rfl, rfl⟩
set_option maxHeartbeats 4000000 in
set_option maxRecDepth 100000 in
theorem k_X1_spare {X : Cx} {l : Launch} {σ0 : Hp} {h : Rg} {r : Nat} {c : Nat} (hv1 : Lv X 1 r) (hw : Wf h) (hc : c < 4) : Con X l yX1_spare cX1_spare 4 (some .int) 4 [.ref (adr X 1 r 0), .int (nI c)] (setR σ0 1 r h) (Ex (some (.int (spareS h c (nC h)))) (setR σ0 1 r h)) := by
  refine Con_of [some (.ref (adr X 1 r 0)), some (.int (nI c)), none, none] (by decide) rfl (Nat.le_of_ble_eq_true rfl) ?_
  have hN := hw.2.2.1
  have hlp : ∀ n k : Nat, k + n = nC h → T X l yX1_spare cX1_spare 4 (some .int) 4 5 [some (.ref (adr X 1 r 0)), some (.int (nI c)), some (.int (spareS h c k)), some (.int (nI k))] [] (setR σ0 1 r h) (Ex (some (.int (spareS h c (nC h)))) (setR σ0 1 r h)) := by
    intro n
    induction n with
    | zero =>
      intro k hk
      have hk : k = nC h := by omega
      subst hk
      refine T_iload_n dX1_spare_5 rfl rfl ?_
      refine T_aload_n dX1_spare_6 rfl rfl ?_
      refine T_g1F hv1 0 (by decide) fl_X1_48 rfl dX1_spare_7 ?_
      refine T_icmp_ge 35 dX1_spare_10 (by decide) (fun h10 => ?_) (fun h10 => (absurd (by rw [hw.1]; exact nI_le (Nat.le_refl _) (by omega)) h10))
      refine T_iload_n dX1_spare_35 rfl rfl ?_
      refine T_iret rfl dX1_spare_36 ?_
      exact ⟨rfl, rfl⟩
    | succ n ih =>
      intro k hk
      have hnx := ih (k + 1) (by omega)
      have hk : k < nC h := by omega
      refine T_iload_n dX1_spare_5 rfl rfl ?_
      refine T_aload_n dX1_spare_6 rfl rfl ?_
      refine T_g1F hv1 0 (by decide) fl_X1_48 rfl dX1_spare_7 ?_
      refine T_icmp_ge 35 dX1_spare_10 (by decide) (fun h10 => (absurd (hw.1 ▸ h10) (nI_ge hk (by omega)))) (fun h10 => ?_)
      refine T_iload_n dX1_spare_13 rfl rfl ?_
      refine T_iload_n dX1_spare_14 rfl rfl ?_
      refine T_icmp_eq 29 dX1_spare_15 (by decide) (fun h15 => ?_) (fun h15 => ?_)
      · first | refine T_iincN3 dX1_spare_29 rfl (by decide) ?_ | refine T_iinc3 dX1_spare_29 rfl rfl (by decide) ?_
        refine T_goto 5 dX1_spare_32 (by decide) ?_
        first | (rw [spareS, if_pos (nIe h15 (by omega) (by omega))] at hnx; exact hnx) | (rw [spareS, if_neg (nIn h15)] at hnx; exact hnx)
      · refine T_iload_n dX1_spare_18 rfl rfl ?_
        refine T_aload_n dX1_spare_19 rfl rfl ?_
        refine T_iload_n dX1_spare_20 rfl rfl ?_
        refine T_iload_n dX1_spare_21 rfl rfl ?_
        refine T_vi (Rc_of (hv1 0 (by decide)) rfl rfl) (k_X1_left hv1 hw (by omega) (by omega)) ml_X1_105 im_yX1_left se_RX1_yX1_left ini_RX1 co_yX1_left rfl de_X1_left (by decide) (by decide) rfl (Nat.le_of_ble_eq_true rfl) dX1_spare_22 ?_
        refine T_min ml_X1_108 sm_Lib_Math_min_name ini__java_lang_Math_ co_Lib_Math_min_name (by decide) (Nat.le_of_ble_eq_true rfl) dX1_spare_25 ?_
        refine T_istore2 dX1_spare_28 rfl (by decide) ?_
        first | refine T_iincN3 dX1_spare_29 rfl (by decide) ?_ | refine T_iinc3 dX1_spare_29 rfl rfl (by decide) ?_
        refine T_goto 5 dX1_spare_32 (by decide) ?_
        first | (rw [spareS, if_pos (nIe h15 (by omega) (by omega))] at hnx; exact hnx) | (rw [spareS, if_neg (nIn h15)] at hnx; exact hnx)
  refine T_bipush (v := nI 99) dX1_spare_0 (by decide) ?_
  refine T_istore2 dX1_spare_2 rfl (by decide) ?_
  refine T_iconst (v := nI 0) dX1_spare_3 rfl ?_
  refine T_istore3 dX1_spare_4 rfl (by decide) ?_
  exact hlp (nC h) 0 (by omega)
set_option maxHeartbeats 4000000 in
set_option maxRecDepth 100000 in
theorem k_X1_copiesWith4 {X : Cx} {l : Launch} {σ0 : Hp} {h : Rg} {r : Nat} {s : Int32} (hv1 : Lv X 1 r) (hw : Wf h) : Con X l yX1_copiesWith cX1_copiesWith 5 (some .int) 0 [.ref (adr X 1 r 0), .ref (adr X 1 r 4), .int s] (setR σ0 1 r h) (Ex (some (.int (withS (h 4) s (nC h)))) (setR σ0 1 r h)) := by
  refine Con_of [some (.ref (adr X 1 r 0)), some (.ref (adr X 1 r 4)), some (.int s), none, none] (by decide) rfl (Nat.le_of_ble_eq_true rfl) ?_
  have hN := hw.2.2.1
  have hlp : ∀ n k : Nat, k + n = nC h → T X l yX1_copiesWith cX1_copiesWith 5 (some .int) 0 5 [some (.ref (adr X 1 r 0)), some (.ref (adr X 1 r 4)), some (.int s), some (.int (withS (h 4) s k)), some (.int (nI k))] [] (setR σ0 1 r h) (Ex (some (.int (withS (h 4) s (nC h)))) (setR σ0 1 r h)) := by
    intro n
    induction n with
    | zero =>
      intro k hk
      have hk : k = nC h := by omega
      subst hk
      refine T_iload dX1_copiesWith_5 rfl ?_
      refine T_aload_n dX1_copiesWith_7 rfl rfl ?_
      refine T_g1F hv1 0 (by decide) fl_X1_48 rfl dX1_copiesWith_8 ?_
      refine T_icmp_ge 37 dX1_copiesWith_11 (by decide) (fun h11 => ?_) (fun h11 => (absurd (by rw [hw.1]; exact nI_le (Nat.le_refl _) (by omega)) h11))
      refine T_iload_n dX1_copiesWith_37 rfl rfl ?_
      refine T_iret rfl dX1_copiesWith_38 ?_
      exact ⟨rfl, rfl⟩
    | succ n ih =>
      intro k hk
      have hnx := ih (k + 1) (by omega)
      have hk : k < nC h := by omega
      refine T_iload dX1_copiesWith_5 rfl ?_
      refine T_aload_n dX1_copiesWith_7 rfl rfl ?_
      refine T_g1F hv1 0 (by decide) fl_X1_48 rfl dX1_copiesWith_8 ?_
      refine T_icmp_ge 37 dX1_copiesWith_11 (by decide) (fun h11 => (absurd (hw.1 ▸ h11) (nI_ge hk (by omega)))) (fun h11 => ?_)
      refine T_aload_n dX1_copiesWith_14 rfl rfl ?_
      refine T_iload dX1_copiesWith_15 rfl ?_
      refine T_ialdF (hv1 _ (by decide)) rfl (Nat.le_of_ble_eq_true rfl) _ (by omega) rfl dX1_copiesWith_17 ?_
      refine T_iload_n dX1_copiesWith_18 rfl rfl ?_
      refine T_iand dX1_copiesWith_19 ?_
      refine T_iload_n dX1_copiesWith_20 rfl rfl ?_
      refine T_icmp_ne 31 dX1_copiesWith_21 (by decide) (fun h21 => ?_) (fun h21 => ?_)
      · first | refine T_iincN4 dX1_copiesWith_31 rfl (by decide) ?_ | refine T_iinc4 dX1_copiesWith_31 rfl rfl (by decide) ?_
        refine T_goto 5 dX1_copiesWith_34 (by decide) ?_
        first | (rw [withS, if_pos h21] at hnx; exact hnx) | (rw [withS, if_neg h21] at hnx; exact hnx)
      · refine T_iload_n dX1_copiesWith_24 rfl rfl ?_
        refine T_iconst (v := nI 1) dX1_copiesWith_25 rfl ?_
        refine T_iload dX1_copiesWith_26 rfl ?_
        refine T_ishl dX1_copiesWith_28 ?_
        refine T_ior dX1_copiesWith_29 ?_
        refine T_istore3 dX1_copiesWith_30 rfl (by decide) ?_
        first | refine T_iincN4 dX1_copiesWith_31 rfl (by decide) ?_ | refine T_iinc4 dX1_copiesWith_31 rfl rfl (by decide) ?_
        refine T_goto 5 dX1_copiesWith_34 (by decide) ?_
        first | (rw [withS, if_pos h21] at hnx; exact hnx) | (rw [withS, if_neg h21] at hnx; exact hnx)
  refine T_iconst (v := nI 0) dX1_copiesWith_0 rfl ?_
  refine T_istore3 dX1_copiesWith_1 rfl (by decide) ?_
  refine T_iconst (v := nI 0) dX1_copiesWith_2 rfl ?_
  refine T_istore4 dX1_copiesWith_3 rfl (by decide) ?_
  exact hlp (nC h) 0 (by omega)
set_option maxHeartbeats 4000000 in
set_option maxRecDepth 100000 in
theorem k_X1_copiesWith5 {X : Cx} {l : Launch} {σ0 : Hp} {h : Rg} {r : Nat} {s : Int32} (hv1 : Lv X 1 r) (hw : Wf h) : Con X l yX1_copiesWith cX1_copiesWith 5 (some .int) 0 [.ref (adr X 1 r 0), .ref (adr X 1 r 5), .int s] (setR σ0 1 r h) (Ex (some (.int (withS (h 5) s (nC h)))) (setR σ0 1 r h)) := by
  refine Con_of [some (.ref (adr X 1 r 0)), some (.ref (adr X 1 r 5)), some (.int s), none, none] (by decide) rfl (Nat.le_of_ble_eq_true rfl) ?_
  have hN := hw.2.2.1
  have hlp : ∀ n k : Nat, k + n = nC h → T X l yX1_copiesWith cX1_copiesWith 5 (some .int) 0 5 [some (.ref (adr X 1 r 0)), some (.ref (adr X 1 r 5)), some (.int s), some (.int (withS (h 5) s k)), some (.int (nI k))] [] (setR σ0 1 r h) (Ex (some (.int (withS (h 5) s (nC h)))) (setR σ0 1 r h)) := by
    intro n
    induction n with
    | zero =>
      intro k hk
      have hk : k = nC h := by omega
      subst hk
      refine T_iload dX1_copiesWith_5 rfl ?_
      refine T_aload_n dX1_copiesWith_7 rfl rfl ?_
      refine T_g1F hv1 0 (by decide) fl_X1_48 rfl dX1_copiesWith_8 ?_
      refine T_icmp_ge 37 dX1_copiesWith_11 (by decide) (fun h11 => ?_) (fun h11 => (absurd (by rw [hw.1]; exact nI_le (Nat.le_refl _) (by omega)) h11))
      refine T_iload_n dX1_copiesWith_37 rfl rfl ?_
      refine T_iret rfl dX1_copiesWith_38 ?_
      exact ⟨rfl, rfl⟩
    | succ n ih =>
      intro k hk
      have hnx := ih (k + 1) (by omega)
      have hk : k < nC h := by omega
      refine T_iload dX1_copiesWith_5 rfl ?_
      refine T_aload_n dX1_copiesWith_7 rfl rfl ?_
      refine T_g1F hv1 0 (by decide) fl_X1_48 rfl dX1_copiesWith_8 ?_
      refine T_icmp_ge 37 dX1_copiesWith_11 (by decide) (fun h11 => (absurd (hw.1 ▸ h11) (nI_ge hk (by omega)))) (fun h11 => ?_)
      refine T_aload_n dX1_copiesWith_14 rfl rfl ?_
      refine T_iload dX1_copiesWith_15 rfl ?_
      refine T_ialdF (hv1 _ (by decide)) rfl (Nat.le_of_ble_eq_true rfl) _ (by omega) rfl dX1_copiesWith_17 ?_
      refine T_iload_n dX1_copiesWith_18 rfl rfl ?_
      refine T_iand dX1_copiesWith_19 ?_
      refine T_iload_n dX1_copiesWith_20 rfl rfl ?_
      refine T_icmp_ne 31 dX1_copiesWith_21 (by decide) (fun h21 => ?_) (fun h21 => ?_)
      · first | refine T_iincN4 dX1_copiesWith_31 rfl (by decide) ?_ | refine T_iinc4 dX1_copiesWith_31 rfl rfl (by decide) ?_
        refine T_goto 5 dX1_copiesWith_34 (by decide) ?_
        first | (rw [withS, if_pos h21] at hnx; exact hnx) | (rw [withS, if_neg h21] at hnx; exact hnx)
      · refine T_iload_n dX1_copiesWith_24 rfl rfl ?_
        refine T_iconst (v := nI 1) dX1_copiesWith_25 rfl ?_
        refine T_iload dX1_copiesWith_26 rfl ?_
        refine T_ishl dX1_copiesWith_28 ?_
        refine T_ior dX1_copiesWith_29 ?_
        refine T_istore3 dX1_copiesWith_30 rfl (by decide) ?_
        first | refine T_iincN4 dX1_copiesWith_31 rfl (by decide) ?_ | refine T_iinc4 dX1_copiesWith_31 rfl rfl (by decide) ?_
        refine T_goto 5 dX1_copiesWith_34 (by decide) ?_
        first | (rw [withS, if_pos h21] at hnx; exact hnx) | (rw [withS, if_neg h21] at hnx; exact hnx)
  refine T_iconst (v := nI 0) dX1_copiesWith_0 rfl ?_
  refine T_istore3 dX1_copiesWith_1 rfl (by decide) ?_
  refine T_iconst (v := nI 0) dX1_copiesWith_2 rfl ?_
  refine T_istore4 dX1_copiesWith_3 rfl (by decide) ?_
  exact hlp (nC h) 0 (by omega)
set_option maxHeartbeats 4000000 in
set_option maxRecDepth 100000 in
theorem k_X1_pushesFor {X : Cx} {l : Launch} {σ0 : Hp} {h : Rg} {r : Nat} {c : Nat} {m : Int32} (hv1 : Lv X 1 r) (hw : Wf h) (hc : c < 4) : Con X l yX1_pushesFor cX1_pushesFor 5 (some .int) 4 [.ref (adr X 1 r 0), .int (nI c), .int m] (setR σ0 1 r h) (Ex (some (.int (nI (pforS h c m (nC h))))) (setR σ0 1 r h)) := by
  refine Con_of [some (.ref (adr X 1 r 0)), some (.int (nI c)), some (.int m), none, none] (by decide) rfl (Nat.le_of_ble_eq_true rfl) ?_
  have hN := hw.2.2.1
  have hlp : ∀ n k : Nat, k + n = nC h → T X l yX1_pushesFor cX1_pushesFor 5 (some .int) 4 5 [some (.ref (adr X 1 r 0)), some (.int (nI c)), some (.int m), some (.int (nI (pforS h c m k))), some (.int (nI k))] [] (setR σ0 1 r h) (Ex (some (.int (nI (pforS h c m (nC h))))) (setR σ0 1 r h)) := by
    intro n
    induction n with
    | zero =>
      intro k hk
      have hk : k = nC h := by omega
      subst hk
      refine T_iload dX1_pushesFor_5 rfl ?_
      refine T_aload_n dX1_pushesFor_7 rfl rfl ?_
      refine T_g1F hv1 0 (by decide) fl_X1_48 rfl dX1_pushesFor_8 ?_
      refine T_icmp_ge 40 dX1_pushesFor_11 (by decide) (fun h11 => ?_) (fun h11 => (absurd (by rw [hw.1]; exact nI_le (Nat.le_refl _) (by omega)) h11))
      refine T_iload_n dX1_pushesFor_40 rfl rfl ?_
      refine T_iret rfl dX1_pushesFor_41 ?_
      exact ⟨rfl, rfl⟩
    | succ n ih =>
      intro k hk
      have hnx := ih (k + 1) (by omega)
      have hk : k < nC h := by omega
      refine T_iload dX1_pushesFor_5 rfl ?_
      refine T_aload_n dX1_pushesFor_7 rfl rfl ?_
      refine T_g1F hv1 0 (by decide) fl_X1_48 rfl dX1_pushesFor_8 ?_
      refine T_icmp_ge 40 dX1_pushesFor_11 (by decide) (fun h11 => (absurd (hw.1 ▸ h11) (nI_ge hk (by omega)))) (fun h11 => ?_)
      refine T_iload dX1_pushesFor_14 rfl ?_
      refine T_iload_n dX1_pushesFor_16 rfl rfl ?_
      refine T_icmp_eq 34 dX1_pushesFor_17 (by decide) (fun h17 => ?_) (fun h17 => ?_)
      · first | refine T_iincN4 dX1_pushesFor_34 rfl (by decide) ?_ | refine T_iinc4 dX1_pushesFor_34 rfl rfl (by decide) ?_
        refine T_goto 5 dX1_pushesFor_37 (by decide) ?_
        first | (rw [pforS, if_pos (nIe h17 (by omega) (by omega))] at hnx; exact hnx) | (rw [pforS, if_neg (nIn h17), if_pos h28] at hnx; exact hnx) | (rw [pforS, if_neg (nIn h17), if_neg h28] at hnx; exact hnx)
      · refine T_aload_n dX1_pushesFor_20 rfl rfl ?_
        refine T_iload_n dX1_pushesFor_21 rfl rfl ?_
        refine T_iload dX1_pushesFor_22 rfl ?_
        refine T_vi (Rc_of (hv1 0 (by decide)) rfl rfl) (k_X1_left hv1 hw (by omega) (by omega)) ml_X1_105 im_yX1_left se_RX1_yX1_left ini_RX1 co_yX1_left rfl de_X1_left (by decide) (by decide) rfl (Nat.le_of_ble_eq_true rfl) dX1_pushesFor_24 ?_
        refine T_iload_n dX1_pushesFor_27 rfl rfl ?_
        refine T_icmp_ge 34 dX1_pushesFor_28 (by decide) (fun h28 => ?_) (fun h28 => ?_)
        · first | refine T_iincN4 dX1_pushesFor_34 rfl (by decide) ?_ | refine T_iinc4 dX1_pushesFor_34 rfl rfl (by decide) ?_
          refine T_goto 5 dX1_pushesFor_37 (by decide) ?_
          first | (rw [pforS, if_pos (nIe h17 (by omega) (by omega))] at hnx; exact hnx) | (rw [pforS, if_neg (nIn h17), if_pos h28] at hnx; exact hnx) | (rw [pforS, if_neg (nIn h17), if_neg h28] at hnx; exact hnx)
        · first | refine T_iincN3 dX1_pushesFor_31 rfl (by decide) ?_ | refine T_iinc3 dX1_pushesFor_31 rfl rfl (by decide) ?_
          first | refine T_iincN4 dX1_pushesFor_34 rfl (by decide) ?_ | refine T_iinc4 dX1_pushesFor_34 rfl rfl (by decide) ?_
          refine T_goto 5 dX1_pushesFor_37 (by decide) ?_
          first | (rw [pforS, if_pos (nIe h17 (by omega) (by omega))] at hnx; exact hnx) | (rw [pforS, if_neg (nIn h17), if_pos h28] at hnx; exact hnx) | (rw [pforS, if_neg (nIn h17), if_neg h28] at hnx; exact hnx)
  refine T_iconst (v := nI 0) dX1_pushesFor_0 rfl ?_
  refine T_istore3 dX1_pushesFor_1 rfl (by decide) ?_
  refine T_iconst (v := nI 0) dX1_pushesFor_2 rfl ?_
  refine T_istore4 dX1_pushesFor_3 rfl (by decide) ?_
  exact hlp (nC h) 0 (by omega)
set_option maxHeartbeats 4000000 in
set_option maxRecDepth 100000 in
theorem k_X1_learn {X : Cx} {l : Launch} {σ0 : Hp} {h : Rg} {r : Nat} {a : Nat} {s : Int32} (hv1 : Lv X 1 r) (ha : a < 4) : Con X l yX1_learn cX1_learn 3 none 0 [.ref (adr X 1 r 0), .int (nI a), .int s] (setR σ0 1 r h) (Ex none (setR σ0 1 r (learnS h a s))) := by
  refine Con_of [some (.ref (adr X 1 r 0)), some (.int (nI a)), some (.int s)] (by decide) rfl (Nat.le_of_ble_eq_true rfl) ?_
  refine T_aload_n dX1_learn_0 rfl rfl ?_
  refine T_g1F hv1 6 (by decide) fl_X1_21 rfl dX1_learn_1 ?_
  refine T_iload_n dX1_learn_4 rfl rfl ?_
  refine T_dup2 dX1_learn_5 rfl rfl ?_
  refine T_ialdF (hv1 _ (by decide)) rfl (Nat.le_of_ble_eq_true rfl) _ (by omega) rfl dX1_learn_6 ?_
  refine T_iload_n dX1_learn_7 rfl rfl ?_
  refine T_ior dX1_learn_8 ?_
  refine T_iastF (hv1 _ (by decide)) (fun _ => rfl) (Nat.le_of_ble_eq_true rfl) _ (by omega) rfl dX1_learn_9 ?_
  refine T_aload_n dX1_learn_10 rfl rfl ?_
  refine T_g1F hv1 7 (by decide) fl_X1_24 rfl dX1_learn_11 ?_
  refine T_iconst (v := nI 0) dX1_learn_14 rfl ?_
  refine T_aload_n dX1_learn_15 rfl rfl ?_
  refine T_g1F hv1 6 (by decide) fl_X1_21 rfl dX1_learn_16 ?_
  refine T_iconst (v := nI 0) dX1_learn_19 rfl ?_
  refine T_ialdF (hv1 _ (by decide)) rfl (Nat.le_of_ble_eq_true rfl) _ (by omega) rfl dX1_learn_20 ?_
  refine T_iastF (hv1 _ (by decide)) (fun _ => rfl) (Nat.le_of_ble_eq_true rfl) _ (by omega) rfl dX1_learn_21 ?_
  refine T_vret rfl dX1_learn_22 ?_
  exact ⟨rfl, rfl⟩
set_option maxHeartbeats 4000000 in
set_option maxRecDepth 100000 in
theorem k_X1_pushIfOver {X : Cx} {l : Launch} {σ0 : Hp} {h : Rg} {r : Nat} {c a : Nat} (hv1 : Lv X 1 r) (hw : Wf h) (hc : c < 4) (ha : a < 4) : Con X l yX1_pushIfOver cX1_pushIfOver 3 (some .boolean) 4 [.ref (adr X 1 r 0), .int (nI c), .int (nI a)] (setR σ0 1 r h) (Ex (some (.int (if leftS h c a < 0 then nI 1 else nI 0))) (setR σ0 1 r (pifS h c a))) := by
  refine Con_of [some (.ref (adr X 1 r 0)), some (.int (nI c)), some (.int (nI a))] (by decide) rfl (Nat.le_of_ble_eq_true rfl) ?_
  refine T_aload_n dX1_pushIfOver_0 rfl rfl ?_
  refine T_iload_n dX1_pushIfOver_1 rfl rfl ?_
  refine T_iload_n dX1_pushIfOver_2 rfl rfl ?_
  refine T_vi (Rc_of (hv1 0 (by decide)) rfl rfl) (k_X1_left hv1 hw (by omega) (by omega)) ml_X1_105 im_yX1_left se_RX1_yX1_left ini_RX1 co_yX1_left rfl de_X1_left (by decide) (by decide) rfl (Nat.le_of_ble_eq_true rfl) dX1_pushIfOver_3 ?_
  refine T_if_lt 11 dX1_pushIfOver_6 (by decide) (fun h6 => ?_) (fun h6 => ?_)
  · refine T_aload_n dX1_pushIfOver_11 rfl rfl ?_
    refine T_iload_n dX1_pushIfOver_12 rfl rfl ?_
    refine T_aload_n dX1_pushIfOver_13 rfl rfl ?_
    refine T_iload_n dX1_pushIfOver_14 rfl rfl ?_
    refine T_vi (Rc_of (hv1 0 (by decide)) rfl rfl) (k_X1_writesBy hv1 hw) ml_X1_99 im_yX1_writesBy se_RX1_yX1_writesBy ini_RX1 co_yX1_writesBy rfl de_X1_writesBy (by decide) (by decide) rfl (Nat.le_of_ble_eq_true rfl) dX1_pushIfOver_15 ?_
    refine T_vv (Rc_of (hv1 0 (by decide)) rfl rfl) (k_X1_learn hv1 (by omega)) ml_X1_113 im_yX1_learn se_RX1_yX1_learn ini_RX1 co_yX1_learn rfl de_X1_learn (by decide) (by decide) rfl (Nat.le_of_ble_eq_true rfl) dX1_pushIfOver_18 ?_
    refine T_aload_n dX1_pushIfOver_21 rfl rfl ?_
    refine T_g1F hv1 8 (by decide) fl_X1_27 rfl dX1_pushIfOver_22 ?_
    refine T_iload_n dX1_pushIfOver_25 rfl rfl ?_
    refine T_iload_n dX1_pushIfOver_26 rfl rfl ?_
    refine T_callSN k_X3_slot (fun _ h => h.2.2.1) sm_yX3_slot ini_RX3 co_yX3_slot de_X3_slot (by decide) (by decide) rfl (Nat.le_of_ble_eq_true rfl) dX1_pushIfOver_27 ?_
    refine T_aload_n dX1_pushIfOver_30 rfl rfl ?_
    refine T_g1F hv1 1 (by decide) fl_X1_52 rfl dX1_pushIfOver_31 ?_
    refine T_iastF (hv1 _ (by decide)) (fun _ => rfl) (Nat.le_of_ble_eq_true rfl) _ (by omega) rfl dX1_pushIfOver_34 ?_
    refine T_iconst (v := nI 1) dX1_pushIfOver_35 rfl ?_
    refine T_zret (ty := .boolean) rfl (by decide) dX1_pushIfOver_36 ?_
    exact ⟨by rw [if_pos h6], by rw [pifS, if_pos h6]; rfl⟩
  · refine T_iconst (v := nI 0) dX1_pushIfOver_9 rfl ?_
    refine T_zret (ty := .boolean) rfl (by decide) dX1_pushIfOver_10 ?_
    exact ⟨by rw [if_neg h6], by rw [pifS, if_neg h6]⟩
set_option maxHeartbeats 4000000 in
set_option maxRecDepth 100000 in
theorem k_X1_accept {X : Cx} {l : Launch} {σ0 : Hp} {h : Rg} {r : Nat} {c : Nat} {w : Int32} (hv1 : Lv X 1 r) (hw : Wf h) (hM : nW h < 24) (hc : c < 4) : Con X l yX1_accept cX1_accept 5 (some .int) 5 [.ref (adr X 1 r 0), .int (nI c), .int w] (setR σ0 1 r h) (Ex (some (.int (nI (accS (newWS h c w) c (nC h)).2))) (setR σ0 1 r (accS (newWS h c w) c (nC h)).1)) := by
  refine Con_of [some (.ref (adr X 1 r 0)), some (.int (nI c)), some (.int w), none, none] (by decide) rfl (Nat.le_of_ble_eq_true rfl) ?_
  have hN := hw.2.2.1
  obtain ⟨hw1, hc1, -⟩ := newWS_W hw hM c w
  have hwk : ∀ k, Wf (accS (newWS h c w) c k).1 := fun k => hw1.congr (accS_0 _ _ k)
  have hck : ∀ k, (accS (newWS h c w) c k).1 0 0 = nI (nC h) := fun k => by rw [accS_0, ← hc1]; exact hw1.1
  have hlp : ∀ n k : Nat, k + n = nC h → T X l yX1_accept cX1_accept 5 (some .int) 5 59 [some (.ref (adr X 1 r 0)), some (.int (nI c)), some (.int w), some (.int (nI (accS (newWS h c w) c k).2)), some (.int (nI k))] [] (setR σ0 1 r (accS (newWS h c w) c k).1) (Ex (some (.int (nI (accS (newWS h c w) c (nC h)).2))) (setR σ0 1 r (accS (newWS h c w) c (nC h)).1)) := by
    intro n
    induction n with
    | zero =>
      intro k hk
      have hk : k = nC h := by omega
      subst hk
      refine T_iload dX1_accept_59 rfl ?_
      refine T_aload_n dX1_accept_61 rfl rfl ?_
      refine T_g1F hv1 0 (by decide) fl_X1_48 rfl dX1_accept_62 ?_
      refine T_icmp_ge 93 dX1_accept_65 (by decide) (fun h65 => ?_) (fun h65 => (absurd (by rw [hck]; exact nI_le (Nat.le_refl _) (by omega)) h65))
      refine T_iload_n dX1_accept_93 rfl rfl ?_
      refine T_iret rfl dX1_accept_94 ?_
      exact ⟨rfl, rfl⟩
    | succ n ih =>
      intro k hk
      have hnx := ih (k + 1) (by omega)
      have hk : k < nC h := by omega
      refine T_iload dX1_accept_59 rfl ?_
      refine T_aload_n dX1_accept_61 rfl rfl ?_
      refine T_g1F hv1 0 (by decide) fl_X1_48 rfl dX1_accept_62 ?_
      refine T_icmp_ge 93 dX1_accept_65 (by decide) (fun h65 => (absurd ((hck k) ▸ h65) (nI_ge hk (by omega)))) (fun h65 => ?_)
      refine T_iload dX1_accept_68 rfl ?_
      refine T_iload_n dX1_accept_70 rfl rfl ?_
      refine T_icmp_eq 87 dX1_accept_71 (by decide) (fun h71 => ?_) (fun h71 => ?_)
      · first | refine T_iincN4 dX1_accept_87 rfl (by decide) ?_ | refine T_iinc4 dX1_accept_87 rfl rfl (by decide) ?_
        refine T_goto 59 dX1_accept_90 (by decide) ?_
        first | (rw [accS, if_pos (nIe h71 (by omega) (by omega))] at hnx; exact hnx) | (rw [accS, if_neg (nIn h71), if_pos (b01_1 h81)] at hnx; rw [pifS, if_pos (b01_1 h81)]; exact hnx) | (rw [accS, if_neg (nIn h71), if_neg (b01_0 h81)] at hnx; rw [pifS, if_neg (b01_0 h81)]; exact hnx)
      · refine T_aload_n dX1_accept_74 rfl rfl ?_
        refine T_iload_n dX1_accept_75 rfl rfl ?_
        refine T_iload dX1_accept_76 rfl ?_
        refine T_vi (Rc_of (hv1 0 (by decide)) rfl rfl) (k_X1_pushIfOver hv1 (hwk k) (by omega) (by omega)) ml_X1_117 im_yX1_pushIfOver se_RX1_yX1_pushIfOver ini_RX1 co_yX1_pushIfOver rfl de_X1_pushIfOver (by decide) (by decide) rfl (Nat.le_of_ble_eq_true rfl) dX1_accept_78 ?_
        refine T_if_eq 87 dX1_accept_81 (by decide) (fun h81 => ?_) (fun h81 => ?_)
        · first | refine T_iincN4 dX1_accept_87 rfl (by decide) ?_ | refine T_iinc4 dX1_accept_87 rfl rfl (by decide) ?_
          refine T_goto 59 dX1_accept_90 (by decide) ?_
          first | (rw [accS, if_pos (nIe h71 (by omega) (by omega))] at hnx; exact hnx) | (rw [accS, if_neg (nIn h71), if_pos (b01_1 h81)] at hnx; rw [pifS, if_pos (b01_1 h81)]; exact hnx) | (rw [accS, if_neg (nIn h71), if_neg (b01_0 h81)] at hnx; rw [pifS, if_neg (b01_0 h81)]; exact hnx)
        · first | refine T_iincN3 dX1_accept_84 rfl (by decide) ?_ | refine T_iinc3 dX1_accept_84 rfl rfl (by decide) ?_
          first | refine T_iincN4 dX1_accept_87 rfl (by decide) ?_ | refine T_iinc4 dX1_accept_87 rfl rfl (by decide) ?_
          refine T_goto 59 dX1_accept_90 (by decide) ?_
          first | (rw [accS, if_pos (nIe h71 (by omega) (by omega))] at hnx; exact hnx) | (rw [accS, if_neg (nIn h71), if_pos (b01_1 h81)] at hnx; rw [pifS, if_pos (b01_1 h81)]; exact hnx) | (rw [accS, if_neg (nIn h71), if_neg (b01_0 h81)] at hnx; rw [pifS, if_neg (b01_0 h81)]; exact hnx)
  refine T_aload_n dX1_accept_0 rfl rfl ?_
  refine T_g1F hv1 10 (by decide) fl_X1_33 rfl dX1_accept_1 ?_
  refine T_aload_n dX1_accept_4 rfl rfl ?_
  refine T_g1F hv1 2 (by decide) fl_X1_55 rfl dX1_accept_5 ?_
  refine T_iload_n dX1_accept_8 rfl rfl ?_
  refine T_iastF (hv1 _ (by decide)) (fun _ => rfl) (Nat.le_of_ble_eq_true rfl) (nW h) (by omega) (hw.2.2.2.1) dX1_accept_9 ?_
  refine T_aload_n dX1_accept_10 rfl rfl ?_
  refine T_g1F hv1 11 (by decide) fl_X1_36 rfl dX1_accept_11 ?_
  refine T_aload_n dX1_accept_14 rfl rfl ?_
  refine T_g1F hv1 2 (by decide) fl_X1_55 rfl dX1_accept_15 ?_
  refine T_aload_n dX1_accept_18 rfl rfl ?_
  refine T_g1F hv1 1 (by decide) fl_X1_52 rfl dX1_accept_19 ?_
  refine T_iastF (hv1 _ (by decide)) (fun _ => rfl) (Nat.le_of_ble_eq_true rfl) (nW h) (by omega) (hw.2.2.2.1) dX1_accept_22 ?_
  refine T_aload_n dX1_accept_23 rfl rfl ?_
  refine T_g1F hv1 12 (by decide) fl_X1_39 rfl dX1_accept_24 ?_
  refine T_aload_n dX1_accept_27 rfl rfl ?_
  refine T_g1F hv1 2 (by decide) fl_X1_55 rfl dX1_accept_28 ?_
  refine T_iload_n dX1_accept_31 rfl rfl ?_
  refine T_iastF (hv1 _ (by decide)) (fun _ => rfl) (Nat.le_of_ble_eq_true rfl) (nW h) (by omega) (hw.2.2.2.1) dX1_accept_32 ?_
  refine T_aload_n dX1_accept_33 rfl rfl ?_
  refine T_iload_n dX1_accept_34 rfl rfl ?_
  refine T_iconst (v := nI 1) dX1_accept_35 rfl ?_
  refine T_aload_n dX1_accept_36 rfl rfl ?_
  refine T_g1F hv1 2 (by decide) fl_X1_55 rfl dX1_accept_37 ?_
  refine T_ishl dX1_accept_40 ?_
  refine T_vv (Rc_of (hv1 0 (by decide)) rfl rfl) (k_X1_learn hv1 (by omega)) ml_X1_113 im_yX1_learn se_RX1_yX1_learn ini_RX1 co_yX1_learn rfl de_X1_learn (by decide) (by decide) rfl (Nat.le_of_ble_eq_true rfl) dX1_accept_41 ?_
  refine T_aload_n dX1_accept_44 rfl rfl ?_
  refine T_dup dX1_accept_45 rfl ?_
  refine T_g1F hv1 2 (by decide) fl_X1_55 rfl dX1_accept_46 ?_
  refine T_iconst (v := nI 1) dX1_accept_49 rfl ?_
  refine T_iadd dX1_accept_50 ?_
  refine T_p1F hv1 2 (by decide) rfl rfl fl_X1_55 (by decide) rfl dX1_accept_51 ?_
  refine T_iconst (v := nI 0) dX1_accept_54 rfl ?_
  refine T_istore3 dX1_accept_55 rfl (by decide) ?_
  refine T_iconst (v := nI 0) dX1_accept_56 rfl ?_
  refine T_istore4 dX1_accept_57 rfl (by decide) ?_
  exact hlp (nC h) 0 (by omega)
end
section
set_option maxHeartbeats 4000000 in
set_option maxRecDepth 100000 in
theorem k_X1_pull {X : Cx} {l : Launch} {σ0 : Hp} {h : Rg} {r : Nat} {a c : Nat} (hv1 : Lv X 1 r) (hw : Wf h) (ha : a < 4) (hc : c < 4) : Con X l yX1_pull cX1_pull 4 none 1 [.ref (adr X 1 r 0), .int (nI a), .int (nI c)] (setR σ0 1 r h) (Ex none (setR σ0 1 r (pullS h a c))) := by
  refine Con_of [some (.ref (adr X 1 r 0)), some (.int (nI a)), some (.int (nI c)), none] (by decide) rfl (Nat.le_of_ble_eq_true rfl) ?_
  have hN := hw.2.2.1
  have hck : ∀ k, (heaS (pul0S h a c) a c k) 0 0 = nI (nC h) := fun k => by rw [heaS_k _ _ _ (by decide)]; exact hw.1
  have hlp : ∀ n k : Nat, k + n = nC h → T X l yX1_pull cX1_pull 4 none 1 42 [some (.ref (adr X 1 r 0)), some (.int (nI a)), some (.int (nI c)), some (.int (nI k))] [] (setR σ0 1 r (heaS (pul0S h a c) a c k)) (Ex none (setR σ0 1 r (pullS h a c))) := by
    intro n
    induction n with
    | zero =>
      intro k hk
      have hk : k = nC h := by omega
      subst hk
      refine T_iload_n dX1_pull_42 rfl rfl ?_
      refine T_aload_n dX1_pull_43 rfl rfl ?_
      refine T_g1F hv1 0 (by decide) fl_X1_48 rfl dX1_pull_44 ?_
      refine T_icmp_ge 99 dX1_pull_47 (by decide) (fun h47 => ?_) (fun h47 => (absurd (by rw [hck]; exact nI_le (Nat.le_refl _) (by omega)) h47))
      refine T_vret rfl dX1_pull_99 ?_
      exact ⟨rfl, rfl⟩
    | succ n ih =>
      intro k hk
      have hnx := ih (k + 1) (by omega)
      have hk : k < nC h := by omega
      refine T_iload_n dX1_pull_42 rfl rfl ?_
      refine T_aload_n dX1_pull_43 rfl rfl ?_
      refine T_g1F hv1 0 (by decide) fl_X1_48 rfl dX1_pull_44 ?_
      refine T_icmp_ge 99 dX1_pull_47 (by decide) (fun h47 => (absurd ((hck k) ▸ h47) (nI_ge hk (by omega)))) (fun h47 => ?_)
      refine T_iload_n dX1_pull_50 rfl rfl ?_
      refine T_iload_n dX1_pull_51 rfl rfl ?_
      refine T_icmp_eq 93 dX1_pull_52 (by decide) (fun h52 => ?_) (fun h52 => ?_)
      · first | refine T_iincN3 dX1_pull_93 rfl (by decide) ?_ | refine T_iinc3 dX1_pull_93 rfl rfl (by decide) ?_
        refine T_goto 42 dX1_pull_96 (by decide) ?_
        first | (rw [heaS, if_pos (nIe h52 (by omega) (by omega))] at hnx; exact hnx) | (rw [heaS, if_neg (nIn h52), if_pos (nIe h57 (by omega) (by omega))] at hnx; exact hnx) | (rw [heaS, if_neg (nIn h52), if_neg (nIn h57)] at hnx; exact hnx)
      · refine T_iload_n dX1_pull_55 rfl rfl ?_
        refine T_iload_n dX1_pull_56 rfl rfl ?_
        refine T_icmp_eq 93 dX1_pull_57 (by decide) (fun h57 => ?_) (fun h57 => ?_)
        · first | refine T_iincN3 dX1_pull_93 rfl (by decide) ?_ | refine T_iinc3 dX1_pull_93 rfl rfl (by decide) ?_
          refine T_goto 42 dX1_pull_96 (by decide) ?_
          first | (rw [heaS, if_pos (nIe h52 (by omega) (by omega))] at hnx; exact hnx) | (rw [heaS, if_neg (nIn h52), if_pos (nIe h57 (by omega) (by omega))] at hnx; exact hnx) | (rw [heaS, if_neg (nIn h52), if_neg (nIn h57)] at hnx; exact hnx)
        · refine T_aload_n dX1_pull_60 rfl rfl ?_
          refine T_g1F hv1 8 (by decide) fl_X1_27 rfl dX1_pull_61 ?_
          refine T_iload_n dX1_pull_64 rfl rfl ?_
          refine T_iload_n dX1_pull_65 rfl rfl ?_
          refine T_callSN k_X3_slot (fun _ h => h.2.2.1) sm_yX3_slot ini_RX3 co_yX3_slot de_X3_slot (by decide) (by decide) rfl (Nat.le_of_ble_eq_true rfl) dX1_pull_66 ?_
          refine T_aload_n dX1_pull_69 rfl rfl ?_
          refine T_g1F hv1 8 (by decide) fl_X1_27 rfl dX1_pull_70 ?_
          refine T_iload_n dX1_pull_73 rfl rfl ?_
          refine T_iload_n dX1_pull_74 rfl rfl ?_
          refine T_callSN k_X3_slot (fun _ h => h.2.2.1) sm_yX3_slot ini_RX3 co_yX3_slot de_X3_slot (by decide) (by decide) rfl (Nat.le_of_ble_eq_true rfl) dX1_pull_75 ?_
          refine T_ialdF (hv1 _ (by decide)) rfl (Nat.le_of_ble_eq_true rfl) _ (by omega) rfl dX1_pull_78 ?_
          refine T_aload_n dX1_pull_79 rfl rfl ?_
          refine T_g1F hv1 8 (by decide) fl_X1_27 rfl dX1_pull_80 ?_
          refine T_iload_n dX1_pull_83 rfl rfl ?_
          refine T_iload_n dX1_pull_84 rfl rfl ?_
          refine T_callSN k_X3_slot (fun _ h => h.2.2.1) sm_yX3_slot ini_RX3 co_yX3_slot de_X3_slot (by decide) (by decide) rfl (Nat.le_of_ble_eq_true rfl) dX1_pull_85 ?_
          refine T_ialdF (hv1 _ (by decide)) rfl (Nat.le_of_ble_eq_true rfl) _ (by omega) rfl dX1_pull_88 ?_
          refine T_max ml_X1_120 sm_Lib_Math_max_name ini__java_lang_Math_ co_Lib_Math_max_name (by decide) (Nat.le_of_ble_eq_true rfl) dX1_pull_89 ?_
          refine T_iastF (hv1 _ (by decide)) (fun _ => rfl) (Nat.le_of_ble_eq_true rfl) _ (by omega) rfl dX1_pull_92 ?_
          first | refine T_iincN3 dX1_pull_93 rfl (by decide) ?_ | refine T_iinc3 dX1_pull_93 rfl rfl (by decide) ?_
          refine T_goto 42 dX1_pull_96 (by decide) ?_
          first | (rw [heaS, if_pos (nIe h52 (by omega) (by omega))] at hnx; exact hnx) | (rw [heaS, if_neg (nIn h52), if_pos (nIe h57 (by omega) (by omega))] at hnx; exact hnx) | (rw [heaS, if_neg (nIn h52), if_neg (nIn h57)] at hnx; exact hnx)
  refine T_aload_n dX1_pull_0 rfl rfl ?_
  refine T_iload_n dX1_pull_1 rfl rfl ?_
  refine T_aload_n dX1_pull_2 rfl rfl ?_
  refine T_g1F hv1 6 (by decide) fl_X1_21 rfl dX1_pull_3 ?_
  refine T_iload_n dX1_pull_6 rfl rfl ?_
  refine T_ialdF (hv1 _ (by decide)) rfl (Nat.le_of_ble_eq_true rfl) _ (by omega) rfl dX1_pull_7 ?_
  refine T_vv (Rc_of (hv1 0 (by decide)) rfl rfl) (k_X1_learn hv1 (by omega)) ml_X1_113 im_yX1_learn se_RX1_yX1_learn ini_RX1 co_yX1_learn rfl de_X1_learn (by decide) (by decide) rfl (Nat.le_of_ble_eq_true rfl) dX1_pull_8 ?_
  refine T_aload_n dX1_pull_11 rfl rfl ?_
  refine T_g1F hv1 7 (by decide) fl_X1_24 rfl dX1_pull_12 ?_
  refine T_iload_n dX1_pull_15 rfl rfl ?_
  refine T_dup2 dX1_pull_16 rfl rfl ?_
  refine T_ialdF (hv1 _ (by decide)) rfl (Nat.le_of_ble_eq_true rfl) _ (by omega) rfl dX1_pull_17 ?_
  refine T_aload_n dX1_pull_18 rfl rfl ?_
  refine T_g1F hv1 7 (by decide) fl_X1_24 rfl dX1_pull_19 ?_
  refine T_iload_n dX1_pull_22 rfl rfl ?_
  refine T_ialdF (hv1 _ (by decide)) rfl (Nat.le_of_ble_eq_true rfl) _ (by omega) rfl dX1_pull_23 ?_
  refine T_ior dX1_pull_24 ?_
  refine T_iastF (hv1 _ (by decide)) (fun _ => rfl) (Nat.le_of_ble_eq_true rfl) _ (by omega) rfl dX1_pull_25 ?_
  refine T_aload_n dX1_pull_26 rfl rfl ?_
  refine T_g1F hv1 8 (by decide) fl_X1_27 rfl dX1_pull_27 ?_
  refine T_iload_n dX1_pull_30 rfl rfl ?_
  refine T_iload_n dX1_pull_31 rfl rfl ?_
  refine T_callSN k_X3_slot (fun _ h => h.2.2.1) sm_yX3_slot ini_RX3 co_yX3_slot de_X3_slot (by decide) (by decide) rfl (Nat.le_of_ble_eq_true rfl) dX1_pull_32 ?_
  refine T_aload_n dX1_pull_35 rfl rfl ?_
  refine T_g1F hv1 1 (by decide) fl_X1_52 rfl dX1_pull_36 ?_
  refine T_iastF (hv1 _ (by decide)) (fun _ => rfl) (Nat.le_of_ble_eq_true rfl) _ (by omega) rfl dX1_pull_39 ?_
  refine T_iconst (v := nI 0) dX1_pull_40 rfl ?_
  refine T_istore3 dX1_pull_41 rfl (by decide) ?_
  exact hlp (nC h) 0 (by omega)
set_option maxHeartbeats 4000000 in
set_option maxRecDepth 100000 in
theorem k_X1_read {X : Cx} {l : Launch} {σ0 : Hp} {h : Rg} {r : Nat} {a : Nat} (hv1 : Lv X 1 r) (hw : Wf h) (ha : a < 4) : Con X l yX1_read cX1_read 4 (some .int) 2 [.ref (adr X 1 r 0), .int (nI a)] (setR σ0 1 r h) (Ex (some (.int (nI (readS h a).2))) (setR σ0 1 r (readS h a).1)) := by
  refine Con_of [some (.ref (adr X 1 r 0)), some (.int (nI a)), none, none] (by decide) rfl (Nat.le_of_ble_eq_true rfl) ?_
  have hN := hw.2.2.1
  have hwk : ∀ k, Wf (redS h a k).1 := fun k => hw.congr (redS_0 _ _ k)
  have hck : ∀ k, (redS h a k).1 0 0 = nI (nC h) := fun k => by rw [redS_0]; exact hw.1
  have hlp : ∀ n k : Nat, k + n = nC h → T X l yX1_read cX1_read 4 (some .int) 2 4 [some (.ref (adr X 1 r 0)), some (.int (nI a)), some (.int (nI (redS h a k).2)), some (.int (nI k))] [] (setR σ0 1 r (redS h a k).1) (Ex (some (.int (nI (readS h a).2))) (setR σ0 1 r (readS h a).1)) := by
    intro n
    induction n with
    | zero =>
      intro k hk
      have hk : k = nC h := by omega
      subst hk
      refine T_iload_n dX1_read_4 rfl rfl ?_
      refine T_aload_n dX1_read_5 rfl rfl ?_
      refine T_g1F hv1 0 (by decide) fl_X1_48 rfl dX1_read_6 ?_
      refine T_icmp_ge 56 dX1_read_9 (by decide) (fun h9 => ?_) (fun h9 => (absurd (by rw [hck]; exact nI_le (Nat.le_refl _) (by omega)) h9))
      refine T_aload_n dX1_read_56 rfl rfl ?_
      refine T_iload_n dX1_read_57 rfl rfl ?_
      refine T_vi (Rc_of (hv1 0 (by decide)) rfl rfl) (k_X1_slow hv1 (by omega)) ml_X1_126 im_yX1_slow se_RX1_yX1_slow ini_RX1 co_yX1_slow rfl de_X1_slow (by decide) (by decide) rfl (Nat.le_of_ble_eq_true rfl) dX1_read_58 ?_
      refine T_aload_n dX1_read_61 rfl rfl ?_
      refine T_g1F hv1 4 (by decide) fl_X1_15 rfl dX1_read_62 ?_
      refine T_iload_n dX1_read_65 rfl rfl ?_
      refine T_ialdF (hv1 _ (by decide)) rfl (Nat.le_of_ble_eq_true rfl) _ (by omega) rfl dX1_read_66 ?_
      refine T_icmp_le 85 dX1_read_67 (by decide) (fun h67 => ?_) (fun h67 => ?_)
      · refine T_iload_n dX1_read_85 rfl rfl ?_
        refine T_iret rfl dX1_read_86 ?_
        first | (refine ⟨?_, ?_⟩ <;> rw [readS, if_pos h67]) | (refine ⟨?_, ?_⟩ <;> rw [readS, if_neg h67]; exact congrArg (fun z => some (Value.int z)) (nI_add _ 2))
      · refine T_aload_n dX1_read_70 rfl rfl ?_
        refine T_iconst (v := nI 0) dX1_read_71 rfl ?_
        refine T_iload_n dX1_read_72 rfl rfl ?_
        refine T_vv (Rc_of (hv1 0 (by decide)) rfl rfl) (k_X1_pull hv1 (hwk _) (by omega) (by omega)) ml_X1_123 im_yX1_pull se_RX1_yX1_pull ini_RX1 co_yX1_pull rfl de_X1_pull (by decide) (by decide) rfl (Nat.le_of_ble_eq_true rfl) dX1_read_73 ?_
        refine T_aload_n dX1_read_76 rfl rfl ?_
        refine T_iload_n dX1_read_77 rfl rfl ?_
        refine T_iconst (v := nI 0) dX1_read_78 rfl ?_
        refine T_vv (Rc_of (hv1 0 (by decide)) rfl rfl) (k_X1_pull hv1 ((hwk _).congr (pullS_0 _ _ _)) (by omega) (by omega)) ml_X1_123 im_yX1_pull se_RX1_yX1_pull ini_RX1 co_yX1_pull rfl de_X1_pull (by decide) (by decide) rfl (Nat.le_of_ble_eq_true rfl) dX1_read_79 ?_
        refine T_iinc2 dX1_read_82 rfl rfl (by decide) ?_
        refine T_iload_n dX1_read_85 rfl rfl ?_
        refine T_iret rfl dX1_read_86 ?_
        first | (refine ⟨?_, ?_⟩ <;> rw [readS, if_pos h67]) | (refine ⟨?_, ?_⟩ <;> rw [readS, if_neg h67]; exact congrArg (fun z => some (Value.int z)) (nI_add _ 2))
    | succ n ih =>
      intro k hk
      have hnx := ih (k + 1) (by omega)
      have hk : k < nC h := by omega
      refine T_iload_n dX1_read_4 rfl rfl ?_
      refine T_aload_n dX1_read_5 rfl rfl ?_
      refine T_g1F hv1 0 (by decide) fl_X1_48 rfl dX1_read_6 ?_
      refine T_icmp_ge 56 dX1_read_9 (by decide) (fun h9 => (absurd ((hck k) ▸ h9) (nI_ge hk (by omega)))) (fun h9 => ?_)
      refine T_iload_n dX1_read_12 rfl rfl ?_
      refine T_iload_n dX1_read_13 rfl rfl ?_
      refine T_icmp_eq 50 dX1_read_14 (by decide) (fun h14 => ?_) (fun h14 => ?_)
      · first | refine T_iincN3 dX1_read_50 rfl (by decide) ?_ | refine T_iinc3 dX1_read_50 rfl rfl (by decide) ?_
        refine T_goto 4 dX1_read_53 (by decide) ?_
        first | (rw [redS, if_pos (nIe h14 (by omega) (by omega))] at hnx; exact hnx) | (rw [redS, if_neg (nIn h14), if_pos h38] at hnx; exact hnx) | (rw [redS, if_neg (nIn h14), if_neg h38] at hnx; exact hnx)
      · refine T_aload_n dX1_read_17 rfl rfl ?_
        refine T_g1F hv1 1 (by decide) fl_X1_52 rfl dX1_read_18 ?_
        refine T_aload_n dX1_read_21 rfl rfl ?_
        refine T_g1F hv1 8 (by decide) fl_X1_27 rfl dX1_read_22 ?_
        refine T_iload_n dX1_read_25 rfl rfl ?_
        refine T_iload_n dX1_read_26 rfl rfl ?_
        refine T_callSN k_X3_slot (fun _ h => h.2.2.1) sm_yX3_slot ini_RX3 co_yX3_slot de_X3_slot (by decide) (by decide) rfl (Nat.le_of_ble_eq_true rfl) dX1_read_27 ?_
        refine T_ialdF (hv1 _ (by decide)) rfl (Nat.le_of_ble_eq_true rfl) _ (by omega) rfl dX1_read_30 ?_
        refine T_isub dX1_read_31 ?_
        refine T_aload_n dX1_read_32 rfl rfl ?_
        refine T_g1F hv1 5 (by decide) fl_X1_18 rfl dX1_read_33 ?_
        refine T_iload_n dX1_read_36 rfl rfl ?_
        refine T_ialdF (hv1 _ (by decide)) rfl (Nat.le_of_ble_eq_true rfl) _ (by omega) rfl dX1_read_37 ?_
        refine T_icmp_le 50 dX1_read_38 (by decide) (fun h38 => ?_) (fun h38 => ?_)
        · first | refine T_iincN3 dX1_read_50 rfl (by decide) ?_ | refine T_iinc3 dX1_read_50 rfl rfl (by decide) ?_
          refine T_goto 4 dX1_read_53 (by decide) ?_
          first | (rw [redS, if_pos (nIe h14 (by omega) (by omega))] at hnx; exact hnx) | (rw [redS, if_neg (nIn h14), if_pos h38] at hnx; exact hnx) | (rw [redS, if_neg (nIn h14), if_neg h38] at hnx; exact hnx)
        · refine T_aload_n dX1_read_41 rfl rfl ?_
          refine T_iload_n dX1_read_42 rfl rfl ?_
          refine T_iload_n dX1_read_43 rfl rfl ?_
          refine T_vv (Rc_of (hv1 0 (by decide)) rfl rfl) (k_X1_pull hv1 (hwk k) (by omega) (by omega)) ml_X1_123 im_yX1_pull se_RX1_yX1_pull ini_RX1 co_yX1_pull rfl de_X1_pull (by decide) (by decide) rfl (Nat.le_of_ble_eq_true rfl) dX1_read_44 ?_
          first | refine T_iincN2 dX1_read_47 rfl (by decide) ?_ | refine T_iinc2 dX1_read_47 rfl rfl (by decide) ?_
          first | refine T_iincN3 dX1_read_50 rfl (by decide) ?_ | refine T_iinc3 dX1_read_50 rfl rfl (by decide) ?_
          refine T_goto 4 dX1_read_53 (by decide) ?_
          first | (rw [redS, if_pos (nIe h14 (by omega) (by omega))] at hnx; exact hnx) | (rw [redS, if_neg (nIn h14), if_pos h38] at hnx; exact hnx) | (rw [redS, if_neg (nIn h14), if_neg h38] at hnx; exact hnx)
  refine T_iconst (v := nI 0) dX1_read_0 rfl ?_
  refine T_istore2 dX1_read_1 rfl (by decide) ?_
  refine T_iconst (v := nI 0) dX1_read_2 rfl ?_
  refine T_istore3 dX1_read_3 rfl (by decide) ?_
  exact hlp (nC h) 0 (by omega)
set_option maxHeartbeats 4000000 in
set_option maxRecDepth 100000 in
theorem k_X1_move {X : Cx} {l : Launch} {σ0 : Hp} {h : Rg} {r : Nat} {a c e : Nat} {k : Int32} (hv1 : Lv X 1 r) (ha : a < 4) (hc : c < 4) (he : e < 4) : Con X l yX1_move cX1_move 5 (some .int) 1 [.ref (adr X 1 r 0), .int (nI a), .int (nI c), .int (nI e), .int k] (setR σ0 1 r h) (Ex (some (.int (moveS h a c e k 7 (a * 4 + c)))) (setR σ0 1 r (moveS h a c e k))) := by
  refine Con_of [some (.ref (adr X 1 r 0)), some (.int (nI a)), some (.int (nI c)), some (.int (nI e)), some (.int k)] (by decide) rfl (Nat.le_of_ble_eq_true rfl) ?_
  refine T_aload_n dX1_move_0 rfl rfl ?_
  refine T_g1F hv1 9 (by decide) fl_X1_30 rfl dX1_move_1 ?_
  refine T_iload_n dX1_move_4 rfl rfl ?_
  refine T_iload_n dX1_move_5 rfl rfl ?_
  refine T_callSN k_X3_slot (fun _ h => h.2.2.1) sm_yX3_slot ini_RX3 co_yX3_slot de_X3_slot (by decide) (by decide) rfl (Nat.le_of_ble_eq_true rfl) dX1_move_6 ?_
  refine T_dup2 dX1_move_9 rfl rfl ?_
  refine T_ialdF (hv1 _ (by decide)) rfl (Nat.le_of_ble_eq_true rfl) _ (by omega) rfl dX1_move_10 ?_
  refine T_iload dX1_move_11 rfl ?_
  refine T_isub dX1_move_13 ?_
  refine T_iastF (hv1 _ (by decide)) (fun _ => rfl) (Nat.le_of_ble_eq_true rfl) _ (by omega) rfl dX1_move_14 ?_
  refine T_aload_n dX1_move_15 rfl rfl ?_
  refine T_g1F hv1 9 (by decide) fl_X1_30 rfl dX1_move_16 ?_
  refine T_iload_n dX1_move_19 rfl rfl ?_
  refine T_iload_n dX1_move_20 rfl rfl ?_
  refine T_callSN k_X3_slot (fun _ h => h.2.2.1) sm_yX3_slot ini_RX3 co_yX3_slot de_X3_slot (by decide) (by decide) rfl (Nat.le_of_ble_eq_true rfl) dX1_move_21 ?_
  refine T_dup2 dX1_move_24 rfl rfl ?_
  refine T_ialdF (hv1 _ (by decide)) rfl (Nat.le_of_ble_eq_true rfl) _ (by omega) rfl dX1_move_25 ?_
  refine T_iload dX1_move_26 rfl ?_
  first | refine T_iaddN dX1_move_28 ?_ | refine T_iadd dX1_move_28 ?_
  refine T_iastF (hv1 _ (by decide)) (fun _ => rfl) (Nat.le_of_ble_eq_true rfl) _ (by omega) rfl dX1_move_29 ?_
  refine T_aload_n dX1_move_30 rfl rfl ?_
  refine T_g1F hv1 9 (by decide) fl_X1_30 rfl dX1_move_31 ?_
  refine T_iload_n dX1_move_34 rfl rfl ?_
  refine T_iload_n dX1_move_35 rfl rfl ?_
  refine T_callSN k_X3_slot (fun _ h => h.2.2.1) sm_yX3_slot ini_RX3 co_yX3_slot de_X3_slot (by decide) (by decide) rfl (Nat.le_of_ble_eq_true rfl) dX1_move_36 ?_
  refine T_ialdF (hv1 _ (by decide)) rfl (Nat.le_of_ble_eq_true rfl) _ (by omega) rfl dX1_move_39 ?_
  refine T_iret rfl dX1_move_40 ?_
  exact ⟨rfl, rfl⟩
set_option maxHeartbeats 4000000 in
set_option maxRecDepth 100000 in
theorem k_X1_shareOf {X : Cx} {l : Launch} {σ0 : Hp} {h : Rg} {r : Nat} {t : Int32} {a c : Nat} (hv1 : Lv X 1 r) (hw : Wf h) (ha : a < 4) (hc : c < 4) : Con X l yX1_shareOf cX1_shareOf 6 (some .int) 0 [.ref (adr X 1 r 0), .int t, .int (nI a), .int (nI c)] (setR σ0 1 r h) (Ex (some (.int (shareS (nC h) t a c))) (setR σ0 1 r h)) := by
  refine Con_of [some (.ref (adr X 1 r 0)), some (.int t), some (.int (nI a)), some (.int (nI c)), none, none] (by decide) rfl (Nat.le_of_ble_eq_true rfl) ?_
  have hN := hw.2.2.1
  have hN2 := hw.2.1
  have e4 : h 0 0 - nI 1 = nI (nC h - 1) := by rw [hw.1, pk_sub (by omega)]
  have hz : ¬ nI (nC h - 1) = 0 := nI_ne0 (by omega) (by omega)
  refine T_aload_n dX1_shareOf_0 rfl rfl ?_
  refine T_g1F hv1 0 (by decide) fl_X1_48 rfl dX1_shareOf_1 ?_
  refine T_iconst (v := nI 1) dX1_shareOf_4 rfl ?_
  refine T_isub dX1_shareOf_5 ?_
  rw [e4]
  refine T_istore4 dX1_shareOf_6 rfl (by decide) ?_
  refine T_iload dX1_shareOf_8 rfl ?_
  refine T_iconst (v := nI 1) dX1_shareOf_10 rfl ?_
  refine T_icmp_ge 16 dX1_shareOf_11 (by decide) (fun h11 => ?_) (fun h11 => (absurd (nI_le (a := 1) (b := nC h - 1) (by omega) (by omega)) h11))
  refine T_iload_n dX1_shareOf_16 rfl rfl ?_
  refine T_iload_n dX1_shareOf_17 rfl rfl ?_
  refine T_icmp_le 27 dX1_shareOf_18 (by decide) (fun h18 => ?_) (fun h18 => ?_)
  · have hac : ¬ a < c := fun q => absurd (nI_lt q (by omega)) (Int32.not_lt.mpr h18)
    refine T_iload_n dX1_shareOf_27 rfl rfl ?_
    refine T_istore5 dX1_shareOf_28 rfl (by decide) ?_
    refine T_iload_n dX1_shareOf_30 rfl rfl ?_
    refine T_iload dX1_shareOf_31 rfl ?_
    refine T_idiv dX1_shareOf_33 hz ?_
    refine T_iload dX1_shareOf_34 rfl ?_
    refine T_iload_n dX1_shareOf_36 rfl rfl ?_
    refine T_iload dX1_shareOf_37 rfl ?_
    refine T_irem dX1_shareOf_39 hz ?_
    refine T_icmp_ge 47 dX1_shareOf_40 (by decide) (fun h40 => ?_) (fun h40 => ?_)
    · refine T_iconst (v := nI 0) dX1_shareOf_47 rfl ?_
      first | refine T_iaddN dX1_shareOf_48 ?_ | refine T_iadd dX1_shareOf_48 ?_
      refine T_iret rfl dX1_shareOf_49 ?_
      exact ⟨by unfold shareS; first | rw [if_neg hac, if_pos (Int32.not_le.mp h40)] | rw [if_neg hac, if_neg (Int32.not_lt.mpr h40)] | rw [if_pos hac, if_pos (Int32.not_le.mp h40)] | rw [if_pos hac, if_neg (Int32.not_lt.mpr h40)], rfl⟩
    · refine T_iconst (v := nI 1) dX1_shareOf_43 rfl ?_
      refine T_goto 48 dX1_shareOf_44 (by decide) ?_
      first | refine T_iaddN dX1_shareOf_48 ?_ | refine T_iadd dX1_shareOf_48 ?_
      refine T_iret rfl dX1_shareOf_49 ?_
      exact ⟨by unfold shareS; first | rw [if_neg hac, if_pos (Int32.not_le.mp h40)] | rw [if_neg hac, if_neg (Int32.not_lt.mpr h40)] | rw [if_pos hac, if_pos (Int32.not_le.mp h40)] | rw [if_pos hac, if_neg (Int32.not_lt.mpr h40)], rfl⟩
  · have hac : a < c := Classical.byContradiction fun q => h18 (nI_le (by omega) (by omega))
    refine T_iload_n dX1_shareOf_21 rfl rfl ?_
    refine T_iconst (v := nI 1) dX1_shareOf_22 rfl ?_
    refine T_isub dX1_shareOf_23 ?_
    rw [pk_sub (a := c) (b := 1) (by omega)]
    refine T_goto 28 dX1_shareOf_24 (by decide) ?_
    refine T_istore5 dX1_shareOf_28 rfl (by decide) ?_
    refine T_iload_n dX1_shareOf_30 rfl rfl ?_
    refine T_iload dX1_shareOf_31 rfl ?_
    refine T_idiv dX1_shareOf_33 hz ?_
    refine T_iload dX1_shareOf_34 rfl ?_
    refine T_iload_n dX1_shareOf_36 rfl rfl ?_
    refine T_iload dX1_shareOf_37 rfl ?_
    refine T_irem dX1_shareOf_39 hz ?_
    refine T_icmp_ge 47 dX1_shareOf_40 (by decide) (fun h40 => ?_) (fun h40 => ?_)
    · refine T_iconst (v := nI 0) dX1_shareOf_47 rfl ?_
      first | refine T_iaddN dX1_shareOf_48 ?_ | refine T_iadd dX1_shareOf_48 ?_
      refine T_iret rfl dX1_shareOf_49 ?_
      exact ⟨by unfold shareS; first | rw [if_neg hac, if_pos (Int32.not_le.mp h40)] | rw [if_neg hac, if_neg (Int32.not_lt.mpr h40)] | rw [if_pos hac, if_pos (Int32.not_le.mp h40)] | rw [if_pos hac, if_neg (Int32.not_lt.mpr h40)], rfl⟩
    · refine T_iconst (v := nI 1) dX1_shareOf_43 rfl ?_
      refine T_goto 48 dX1_shareOf_44 (by decide) ?_
      first | refine T_iaddN dX1_shareOf_48 ?_ | refine T_iadd dX1_shareOf_48 ?_
      refine T_iret rfl dX1_shareOf_49 ?_
      exact ⟨by unfold shareS; first | rw [if_neg hac, if_pos (Int32.not_le.mp h40)] | rw [if_neg hac, if_neg (Int32.not_lt.mpr h40)] | rw [if_pos hac, if_pos (Int32.not_le.mp h40)] | rw [if_pos hac, if_neg (Int32.not_lt.mpr h40)], rfl⟩
set_option maxHeartbeats 4000000 in
set_option maxRecDepth 100000 in
theorem k_X1_splitNumber {X : Cx} {l : Launch} {σ0 : Hp} {h : Rg} {r : Nat} {a : Nat} (hv1 : Lv X 1 r) (hw : Wf h) (ha : a < 4) : Con X l yX1_splitNumber cX1_splitNumber 3 none 1 [.ref (adr X 1 r 0), .int (nI a)] (setR σ0 1 r h) (Ex none (setR σ0 1 r (splS h a (nC h)))) := by
  refine Con_of [some (.ref (adr X 1 r 0)), some (.int (nI a)), none] (by decide) rfl (Nat.le_of_ble_eq_true rfl) ?_
  have hN := hw.2.2.1
  have hwk : ∀ k, Wf (splS h a k) := fun k => hw.congr (splS_k _ _ (by decide) k)
  have hck : ∀ k, (splS h a k) 0 0 = nI (nC h) := fun k => by rw [splS_k _ _ (by decide)]; exact hw.1
  have hlp : ∀ n k : Nat, k + n = nC h → T X l yX1_splitNumber cX1_splitNumber 3 none 1 2 [some (.ref (adr X 1 r 0)), some (.int (nI a)), some (.int (nI k))] [] (setR σ0 1 r (splS h a k)) (Ex none (setR σ0 1 r (splS h a (nC h)))) := by
    intro n
    induction n with
    | zero =>
      intro k hk
      have hk : k = nC h := by omega
      subst hk
      refine T_iload_n dX1_splitNumber_2 rfl rfl ?_
      refine T_aload_n dX1_splitNumber_3 rfl rfl ?_
      refine T_g1F hv1 0 (by decide) fl_X1_48 rfl dX1_splitNumber_4 ?_
      refine T_icmp_ge 43 dX1_splitNumber_7 (by decide) (fun h7 => ?_) (fun h7 => (absurd (by rw [hck]; exact nI_le (Nat.le_refl _) (by omega)) h7))
      refine T_vret rfl dX1_splitNumber_43 ?_
      exact ⟨rfl, rfl⟩
    | succ n ih =>
      intro k hk
      have hnx := ih (k + 1) (by omega)
      have hk : k < nC h := by omega
      refine T_iload_n dX1_splitNumber_2 rfl rfl ?_
      refine T_aload_n dX1_splitNumber_3 rfl rfl ?_
      refine T_g1F hv1 0 (by decide) fl_X1_48 rfl dX1_splitNumber_4 ?_
      refine T_icmp_ge 43 dX1_splitNumber_7 (by decide) (fun h7 => (absurd ((hck k) ▸ h7) (nI_ge hk (by omega)))) (fun h7 => ?_)
      refine T_iload_n dX1_splitNumber_10 rfl rfl ?_
      refine T_iload_n dX1_splitNumber_11 rfl rfl ?_
      refine T_icmp_eq 37 dX1_splitNumber_12 (by decide) (fun h12 => ?_) (fun h12 => ?_)
      · first | refine T_iincN2 dX1_splitNumber_37 rfl (by decide) ?_ | refine T_iinc2 dX1_splitNumber_37 rfl rfl (by decide) ?_
        refine T_goto 2 dX1_splitNumber_40 (by decide) ?_
        first | (rw [splS, if_pos (nIe h12 (by omega) (by omega))] at hnx; exact hnx) | (rw [splS, if_neg (nIn h12)] at hnx; rw [nC_congr (splS_k h a (by decide) k), splS_k h a (show ¬ 1 = 7 by decide) k]; exact hnx)
      · refine T_aload_n dX1_splitNumber_15 rfl rfl ?_
        refine T_g1F hv1 9 (by decide) fl_X1_30 rfl dX1_splitNumber_16 ?_
        refine T_iload_n dX1_splitNumber_19 rfl rfl ?_
        refine T_iload_n dX1_splitNumber_20 rfl rfl ?_
        refine T_callSN k_X3_slot (fun _ h => h.2.2.1) sm_yX3_slot ini_RX3 co_yX3_slot de_X3_slot (by decide) (by decide) rfl (Nat.le_of_ble_eq_true rfl) dX1_splitNumber_21 ?_
        refine T_aload_n dX1_splitNumber_24 rfl rfl ?_
        refine T_aload_n dX1_splitNumber_25 rfl rfl ?_
        refine T_g1F hv1 3 (by decide) fl_X1_9 rfl dX1_splitNumber_26 ?_
        refine T_iload_n dX1_splitNumber_29 rfl rfl ?_
        refine T_ialdF (hv1 _ (by decide)) rfl (Nat.le_of_ble_eq_true rfl) _ (by omega) rfl dX1_splitNumber_30 ?_
        refine T_iload_n dX1_splitNumber_31 rfl rfl ?_
        refine T_iload_n dX1_splitNumber_32 rfl rfl ?_
        refine T_vi (Rc_of (hv1 0 (by decide)) rfl rfl) (k_X1_shareOf hv1 (hwk k) (by omega) (by omega)) ml_X1_78 im_yX1_shareOf se_RX1_yX1_shareOf ini_RX1 co_yX1_shareOf rfl de_X1_shareOf (by decide) (by decide) rfl (Nat.le_of_ble_eq_true rfl) dX1_splitNumber_33 ?_
        refine T_iastF (hv1 _ (by decide)) (fun _ => rfl) (Nat.le_of_ble_eq_true rfl) _ (by omega) rfl dX1_splitNumber_36 ?_
        first | refine T_iincN2 dX1_splitNumber_37 rfl (by decide) ?_ | refine T_iinc2 dX1_splitNumber_37 rfl rfl (by decide) ?_
        refine T_goto 2 dX1_splitNumber_40 (by decide) ?_
        first | (rw [splS, if_pos (nIe h12 (by omega) (by omega))] at hnx; exact hnx) | (rw [splS, if_neg (nIn h12)] at hnx; rw [nC_congr (splS_k h a (by decide) k), splS_k h a (show ¬ 1 = 7 by decide) k]; exact hnx)
  refine T_iconst (v := nI 0) dX1_splitNumber_0 rfl ?_
  refine T_istore2 dX1_splitNumber_1 rfl (by decide) ?_
  exact hlp (nC h) 0 (by omega)
set_option maxHeartbeats 4000000 in
set_option maxRecDepth 100000 in
theorem k_X1_splitAllNumbers {X : Cx} {l : Launch} {σ0 : Hp} {h : Rg} {r : Nat} (hv1 : Lv X 1 r) (hw : Wf h) : Con X l yX1_splitAllNumbers cX1_splitAllNumbers 2 none 2 [.ref (adr X 1 r 0)] (setR σ0 1 r h) (Ex none (setR σ0 1 r (spaS h (nC h)))) := by
  refine Con_of [some (.ref (adr X 1 r 0)), none] (by decide) rfl (Nat.le_of_ble_eq_true rfl) ?_
  have hN := hw.2.2.1
  have hwk : ∀ k, Wf (spaS h k) := fun k => hw.congr (spaS_k _ (by decide) k)
  have hck : ∀ k, (spaS h k) 0 0 = nI (nC h) := fun k => by rw [spaS_k _ (by decide)]; exact hw.1
  have hlp : ∀ n k : Nat, k + n = nC h → T X l yX1_splitAllNumbers cX1_splitAllNumbers 2 none 2 2 [some (.ref (adr X 1 r 0)), some (.int (nI k))] [] (setR σ0 1 r (spaS h k)) (Ex none (setR σ0 1 r (spaS h (nC h)))) := by
    intro n
    induction n with
    | zero =>
      intro k hk
      have hk : k = nC h := by omega
      subst hk
      refine T_iload_n dX1_splitAllNumbers_2 rfl rfl ?_
      refine T_aload_n dX1_splitAllNumbers_3 rfl rfl ?_
      refine T_g1F hv1 0 (by decide) fl_X1_48 rfl dX1_splitAllNumbers_4 ?_
      refine T_icmp_ge 21 dX1_splitAllNumbers_7 (by decide) (fun h7 => ?_) (fun h7 => (absurd (by rw [hck]; exact nI_le (Nat.le_refl _) (by omega)) h7))
      refine T_vret rfl dX1_splitAllNumbers_21 ?_
      exact ⟨rfl, rfl⟩
    | succ n ih =>
      intro k hk
      have hnx := ih (k + 1) (by omega)
      have hk : k < nC h := by omega
      refine T_iload_n dX1_splitAllNumbers_2 rfl rfl ?_
      refine T_aload_n dX1_splitAllNumbers_3 rfl rfl ?_
      refine T_g1F hv1 0 (by decide) fl_X1_48 rfl dX1_splitAllNumbers_4 ?_
      refine T_icmp_ge 21 dX1_splitAllNumbers_7 (by decide) (fun h7 => (absurd ((hck k) ▸ h7) (nI_ge hk (by omega)))) (fun h7 => ?_)
      refine T_aload_n dX1_splitAllNumbers_10 rfl rfl ?_
      refine T_iload_n dX1_splitAllNumbers_11 rfl rfl ?_
      refine T_vv (Rc_of (hv1 0 (by decide)) rfl rfl) (k_X1_splitNumber hv1 (hwk k) (by omega)) ml_X1_70 im_yX1_splitNumber se_RX1_yX1_splitNumber ini_RX1 co_yX1_splitNumber rfl de_X1_splitNumber (by decide) (by decide) rfl (Nat.le_of_ble_eq_true rfl) dX1_splitAllNumbers_12 ?_
      first | refine T_iincN1 dX1_splitAllNumbers_15 rfl (by decide) ?_ | refine T_iinc1 dX1_splitAllNumbers_15 rfl rfl (by decide) ?_
      refine T_goto 2 dX1_splitAllNumbers_18 (by decide) ?_
      rw [nC_congr (spaS_k h (by decide) k)]; exact hnx
  refine T_iconst (v := nI 0) dX1_splitAllNumbers_0 rfl ?_
  refine T_istore1 dX1_splitAllNumbers_1 rfl (by decide) ?_
  exact hlp (nC h) 0 (by omega)
set_option maxHeartbeats 4000000 in
set_option maxRecDepth 100000 in
theorem k_X1_setBounds {X : Cx} {l : Launch} {σ0 : Hp} {h : Rg} {r : Nat} {a : Nat} {x y z : Int32} (hv1 : Lv X 1 r) (ha : a < 4) : Con X l yX1_setBounds cX1_setBounds 5 none 0 [.ref (adr X 1 r 0), .int (nI a), .int x, .int y, .int z] (setR σ0 1 r h) (Ex none (setR σ0 1 r (setbS h a x y z))) := by
  refine Con_of [some (.ref (adr X 1 r 0)), some (.int (nI a)), some (.int x), some (.int y), some (.int z)] (by decide) rfl (Nat.le_of_ble_eq_true rfl) ?_
  refine T_aload_n dX1_setBounds_0 rfl rfl ?_
  refine T_g1F hv1 3 (by decide) fl_X1_9 rfl dX1_setBounds_1 ?_
  refine T_iload_n dX1_setBounds_4 rfl rfl ?_
  refine T_iload_n dX1_setBounds_5 rfl rfl ?_
  refine T_iastF (hv1 _ (by decide)) (fun _ => rfl) (Nat.le_of_ble_eq_true rfl) _ (by omega) rfl dX1_setBounds_6 ?_
  refine T_aload_n dX1_setBounds_7 rfl rfl ?_
  refine T_g1F hv1 4 (by decide) fl_X1_15 rfl dX1_setBounds_8 ?_
  refine T_iload_n dX1_setBounds_11 rfl rfl ?_
  refine T_iload_n dX1_setBounds_12 rfl rfl ?_
  refine T_iastF (hv1 _ (by decide)) (fun _ => rfl) (Nat.le_of_ble_eq_true rfl) _ (by omega) rfl dX1_setBounds_13 ?_
  refine T_aload_n dX1_setBounds_14 rfl rfl ?_
  refine T_g1F hv1 5 (by decide) fl_X1_18 rfl dX1_setBounds_15 ?_
  refine T_iload_n dX1_setBounds_18 rfl rfl ?_
  refine T_iload dX1_setBounds_19 rfl ?_
  refine T_iastF (hv1 _ (by decide)) (fun _ => rfl) (Nat.le_of_ble_eq_true rfl) _ (by omega) rfl dX1_setBounds_21 ?_
  refine T_vret rfl dX1_setBounds_22 ?_
  exact ⟨rfl, rfl⟩
set_option maxHeartbeats 4000000 in
set_option maxRecDepth 100000 in
theorem k_X1_isBound {X : Cx} {l : Launch} {σ0 : Hp} {h : Rg} {r : Nat} {a : Nat} {x y z : Int32} (hv1 : Lv X 1 r) (ha : a < 4) : Con X l yX1_isBound cX1_isBound 5 (some .boolean) 0 [.ref (adr X 1 r 0), .int (nI a), .int x, .int y, .int z] (setR σ0 1 r h) (Ex (some (.int (if h 1 a = x ∧ h 2 a = y ∧ h 3 a = z then nI 1 else nI 0))) (setR σ0 1 r h)) := by
  refine Con_of [some (.ref (adr X 1 r 0)), some (.int (nI a)), some (.int x), some (.int y), some (.int z)] (by decide) rfl (Nat.le_of_ble_eq_true rfl) ?_
  refine T_aload_n dX1_isBound_0 rfl rfl ?_
  refine T_g1F hv1 3 (by decide) fl_X1_9 rfl dX1_isBound_1 ?_
  refine T_iload_n dX1_isBound_4 rfl rfl ?_
  refine T_ialdF (hv1 _ (by decide)) rfl (Nat.le_of_ble_eq_true rfl) _ (by omega) rfl dX1_isBound_5 ?_
  refine T_iload_n dX1_isBound_6 rfl rfl ?_
  refine T_icmp_ne 35 dX1_isBound_7 (by decide) (fun h7 => ?_) (fun h7 => ?_)
  · refine T_iconst (v := nI 0) dX1_isBound_35 rfl ?_
    refine T_zret (ty := .boolean) rfl (by decide) dX1_isBound_36 ?_
    first | (refine ⟨?_, rfl⟩; rw [if_pos (an0 h7 h17 h28)]) | (refine ⟨?_, rfl⟩; rw [if_neg (an1 h7)]) | (refine ⟨?_, rfl⟩; rw [if_neg (an2 h17)]) | (refine ⟨?_, rfl⟩; rw [if_neg (an3 h28)])
  · refine T_aload_n dX1_isBound_10 rfl rfl ?_
    refine T_g1F hv1 4 (by decide) fl_X1_15 rfl dX1_isBound_11 ?_
    refine T_iload_n dX1_isBound_14 rfl rfl ?_
    refine T_ialdF (hv1 _ (by decide)) rfl (Nat.le_of_ble_eq_true rfl) _ (by omega) rfl dX1_isBound_15 ?_
    refine T_iload_n dX1_isBound_16 rfl rfl ?_
    refine T_icmp_ne 35 dX1_isBound_17 (by decide) (fun h17 => ?_) (fun h17 => ?_)
    · refine T_iconst (v := nI 0) dX1_isBound_35 rfl ?_
      refine T_zret (ty := .boolean) rfl (by decide) dX1_isBound_36 ?_
      first | (refine ⟨?_, rfl⟩; rw [if_pos (an0 h7 h17 h28)]) | (refine ⟨?_, rfl⟩; rw [if_neg (an1 h7)]) | (refine ⟨?_, rfl⟩; rw [if_neg (an2 h17)]) | (refine ⟨?_, rfl⟩; rw [if_neg (an3 h28)])
    · refine T_aload_n dX1_isBound_20 rfl rfl ?_
      refine T_g1F hv1 5 (by decide) fl_X1_18 rfl dX1_isBound_21 ?_
      refine T_iload_n dX1_isBound_24 rfl rfl ?_
      refine T_ialdF (hv1 _ (by decide)) rfl (Nat.le_of_ble_eq_true rfl) _ (by omega) rfl dX1_isBound_25 ?_
      refine T_iload dX1_isBound_26 rfl ?_
      refine T_icmp_ne 35 dX1_isBound_28 (by decide) (fun h28 => ?_) (fun h28 => ?_)
      · refine T_iconst (v := nI 0) dX1_isBound_35 rfl ?_
        refine T_zret (ty := .boolean) rfl (by decide) dX1_isBound_36 ?_
        first | (refine ⟨?_, rfl⟩; rw [if_pos (an0 h7 h17 h28)]) | (refine ⟨?_, rfl⟩; rw [if_neg (an1 h7)]) | (refine ⟨?_, rfl⟩; rw [if_neg (an2 h17)]) | (refine ⟨?_, rfl⟩; rw [if_neg (an3 h28)])
      · refine T_iconst (v := nI 1) dX1_isBound_31 rfl ?_
        refine T_goto 36 dX1_isBound_32 (by decide) ?_
        refine T_zret (ty := .boolean) rfl (by decide) dX1_isBound_36 ?_
        first | (refine ⟨?_, rfl⟩; rw [if_pos (an0 h7 h17 h28)]) | (refine ⟨?_, rfl⟩; rw [if_neg (an1 h7)]) | (refine ⟨?_, rfl⟩; rw [if_neg (an2 h17)]) | (refine ⟨?_, rfl⟩; rw [if_neg (an3 h28)])
set_option maxHeartbeats 4000000 in
set_option maxRecDepth 100000 in
theorem k_X1_even {X : Cx} {l : Launch} {σ0 : Hp} {h : Rg} {r : Nat} {a : Nat} (hv1 : Lv X 1 r) (hw : Wf h) (ha : a < 4) : Con X l yX1_even cX1_even 4 (some .int) 4 [.ref (adr X 1 r 0), .int (nI a)] (setR σ0 1 r h) (Ex (some (.int (totS h a (nC h)))) (setR σ0 1 r (eveS h a (totS h a (nC h)) (nC h)))) := by
  refine Con_of [some (.ref (adr X 1 r 0)), some (.int (nI a)), none, none] (by decide) rfl (Nat.le_of_ble_eq_true rfl) ?_
  have hN := hw.2.2.1
  have hwk : ∀ k, Wf (eveS h a (totS h a (nC h)) k) := fun k => hw.congr (eveS_k _ _ _ (by decide) k)
  have hck : ∀ k, (eveS h a (totS h a (nC h)) k) 0 0 = nI (nC h) := fun k => by rw [eveS_k _ _ _ (by decide)]; exact hw.1
  have hlp2 : ∀ n k : Nat, k + n = nC h → T X l yX1_even cX1_even 4 (some .int) 4 34 [some (.ref (adr X 1 r 0)), some (.int (nI a)), some (.int (totS h a (nC h))), some (.int (nI k))] [] (setR σ0 1 r (eveS h a (totS h a (nC h)) k)) (Ex (some (.int (totS h a (nC h)))) (setR σ0 1 r (eveS h a (totS h a (nC h)) (nC h)))) := by
    intro n
    induction n with
    | zero =>
      intro k hk
      have hk : k = nC h := by omega
      subst hk
      refine T_iload_n dX1_even_34 rfl rfl ?_
      refine T_aload_n dX1_even_35 rfl rfl ?_
      refine T_g1F hv1 0 (by decide) fl_X1_48 rfl dX1_even_36 ?_
      refine T_icmp_ge 77 dX1_even_39 (by decide) (fun h39 => ?_) (fun h39 => (absurd (by rw [hck]; exact nI_le (Nat.le_refl _) (by omega)) h39))
      refine T_iload_n dX1_even_77 rfl rfl ?_
      refine T_iret rfl dX1_even_78 ?_
      exact ⟨rfl, rfl⟩
    | succ n ih =>
      intro k hk
      have hnx := ih (k + 1) (by omega)
      have hk : k < nC h := by omega
      refine T_iload_n dX1_even_34 rfl rfl ?_
      refine T_aload_n dX1_even_35 rfl rfl ?_
      refine T_g1F hv1 0 (by decide) fl_X1_48 rfl dX1_even_36 ?_
      refine T_icmp_ge 77 dX1_even_39 (by decide) (fun h39 => (absurd ((hck k) ▸ h39) (nI_ge hk (by omega)))) (fun h39 => ?_)
      refine T_iload_n dX1_even_42 rfl rfl ?_
      refine T_iload_n dX1_even_43 rfl rfl ?_
      refine T_icmp_eq 71 dX1_even_44 (by decide) (fun h44 => ?_) (fun h44 => ?_)
      · first | refine T_iincN3 dX1_even_71 rfl (by decide) ?_ | refine T_iinc3 dX1_even_71 rfl rfl (by decide) ?_
        refine T_goto 34 dX1_even_74 (by decide) ?_
        first | (rw [eveS, if_pos (nIe h44 (by omega) (by omega))] at hnx; exact hnx) | (rw [eveS, if_neg (nIn h44)] at hnx; rw [nC_congr (eveS_k h a (totS h a (nC h)) (by decide) k)]; exact hnx)
      · refine T_aload_n dX1_even_47 rfl rfl ?_
        refine T_g1F hv1 9 (by decide) fl_X1_30 rfl dX1_even_48 ?_
        refine T_iload_n dX1_even_51 rfl rfl ?_
        refine T_iload_n dX1_even_52 rfl rfl ?_
        refine T_callSN k_X3_slot (fun _ h => h.2.2.1) sm_yX3_slot ini_RX3 co_yX3_slot de_X3_slot (by decide) (by decide) rfl (Nat.le_of_ble_eq_true rfl) dX1_even_53 ?_
        refine T_aload_n dX1_even_56 rfl rfl ?_
        refine T_iload_n dX1_even_57 rfl rfl ?_
        refine T_iload_n dX1_even_58 rfl rfl ?_
        refine T_vi (Rc_of (hv1 0 (by decide)) rfl rfl) (k_X1_owed hv1 (hwk k) (by omega) (by omega)) ml_X1_102 im_yX1_owed se_RX1_yX1_owed ini_RX1 co_yX1_owed rfl de_X1_owed (by decide) (by decide) rfl (Nat.le_of_ble_eq_true rfl) dX1_even_59 ?_
        refine T_aload_n dX1_even_62 rfl rfl ?_
        refine T_iload_n dX1_even_63 rfl rfl ?_
        refine T_iload_n dX1_even_64 rfl rfl ?_
        refine T_iload_n dX1_even_65 rfl rfl ?_
        refine T_vi (Rc_of (hv1 0 (by decide)) rfl rfl) (k_X1_shareOf hv1 (hwk k) (by omega) (by omega)) ml_X1_78 im_yX1_shareOf se_RX1_yX1_shareOf ini_RX1 co_yX1_shareOf rfl de_X1_shareOf (by decide) (by decide) rfl (Nat.le_of_ble_eq_true rfl) dX1_even_66 ?_
        refine T_iadd dX1_even_69 ?_
        refine T_iastF (hv1 _ (by decide)) (fun _ => rfl) (Nat.le_of_ble_eq_true rfl) _ (by omega) rfl dX1_even_70 ?_
        first | refine T_iincN3 dX1_even_71 rfl (by decide) ?_ | refine T_iinc3 dX1_even_71 rfl rfl (by decide) ?_
        refine T_goto 34 dX1_even_74 (by decide) ?_
        first | (rw [eveS, if_pos (nIe h44 (by omega) (by omega))] at hnx; exact hnx) | (rw [eveS, if_neg (nIn h44)] at hnx; rw [nC_congr (eveS_k h a (totS h a (nC h)) (by decide) k)]; exact hnx)
  have hlp : ∀ n k : Nat, k + n = nC h → T X l yX1_even cX1_even 4 (some .int) 4 4 [some (.ref (adr X 1 r 0)), some (.int (nI a)), some (.int (totS h a k)), some (.int (nI k))] [] (setR σ0 1 r h) (Ex (some (.int (totS h a (nC h)))) (setR σ0 1 r (eveS h a (totS h a (nC h)) (nC h)))) := by
    intro n
    induction n with
    | zero =>
      intro k hk
      have hk : k = nC h := by omega
      subst hk
      refine T_iload_n dX1_even_4 rfl rfl ?_
      refine T_aload_n dX1_even_5 rfl rfl ?_
      refine T_g1F hv1 0 (by decide) fl_X1_48 rfl dX1_even_6 ?_
      refine T_icmp_ge 32 dX1_even_9 (by decide) (fun h9 => ?_) (fun h9 => (absurd (by rw [hw.1]; exact nI_le (Nat.le_refl _) (by omega)) h9))
      refine T_iconst (v := nI 0) dX1_even_32 rfl ?_
      refine T_istore3 dX1_even_33 rfl (by decide) ?_
      exact hlp2 (nC h) 0 (by omega)
    | succ n ih =>
      intro k hk
      have hnx := ih (k + 1) (by omega)
      have hk : k < nC h := by omega
      refine T_iload_n dX1_even_4 rfl rfl ?_
      refine T_aload_n dX1_even_5 rfl rfl ?_
      refine T_g1F hv1 0 (by decide) fl_X1_48 rfl dX1_even_6 ?_
      refine T_icmp_ge 32 dX1_even_9 (by decide) (fun h9 => (absurd (hw.1 ▸ h9) (nI_ge hk (by omega)))) (fun h9 => ?_)
      refine T_iload_n dX1_even_12 rfl rfl ?_
      refine T_iload_n dX1_even_13 rfl rfl ?_
      refine T_icmp_eq 26 dX1_even_14 (by decide) (fun h14 => ?_) (fun h14 => ?_)
      · first | refine T_iincN3 dX1_even_26 rfl (by decide) ?_ | refine T_iinc3 dX1_even_26 rfl rfl (by decide) ?_
        refine T_goto 4 dX1_even_29 (by decide) ?_
        first | (rw [totS, if_pos (nIe h14 (by omega) (by omega))] at hnx; exact hnx) | (rw [totS, if_neg (nIn h14)] at hnx; exact hnx)
      · refine T_iload_n dX1_even_17 rfl rfl ?_
        refine T_aload_n dX1_even_18 rfl rfl ?_
        refine T_iload_n dX1_even_19 rfl rfl ?_
        refine T_iload_n dX1_even_20 rfl rfl ?_
        refine T_vi (Rc_of (hv1 0 (by decide)) rfl rfl) (k_X1_left hv1 hw (by omega) (by omega)) ml_X1_105 im_yX1_left se_RX1_yX1_left ini_RX1 co_yX1_left rfl de_X1_left (by decide) (by decide) rfl (Nat.le_of_ble_eq_true rfl) dX1_even_21 ?_
        refine T_iadd dX1_even_24 ?_
        refine T_istore2 dX1_even_25 rfl (by decide) ?_
        first | refine T_iincN3 dX1_even_26 rfl (by decide) ?_ | refine T_iinc3 dX1_even_26 rfl rfl (by decide) ?_
        refine T_goto 4 dX1_even_29 (by decide) ?_
        first | (rw [totS, if_pos (nIe h14 (by omega) (by omega))] at hnx; exact hnx) | (rw [totS, if_neg (nIn h14)] at hnx; exact hnx)
  refine T_iconst (v := nI 0) dX1_even_0 rfl ?_
  refine T_istore2 dX1_even_1 rfl (by decide) ?_
  refine T_iconst (v := nI 0) dX1_even_2 rfl ?_
  refine T_istore3 dX1_even_3 rfl (by decide) ?_
  exact hlp (nC h) 0 (by omega)
set_option maxHeartbeats 4000000 in
set_option maxRecDepth 100000 in
theorem k_X1_bindAnew {X : Cx} {l : Launch} {σ0 : Hp} {h : Rg} {r : Nat} {a : Nat} {x y z : Int32} (hv1 : Lv X 1 r) (hw : Wf h) (ha : a < 4) : Con X l yX1_bindAnew cX1_bindAnew 8 (some .int) 5 [.ref (adr X 1 r 0), .int (nI a), .int x, .int y, .int z] (setR σ0 1 r h) (Ex (some (.int (nI (bindS h a x y z).2))) (setR σ0 1 r (bindS h a x y z).1)) := by
  refine Con_of [some (.ref (adr X 1 r 0)), some (.int (nI a)), some (.int x), some (.int y), some (.int z), none, none, none] (by decide) rfl (Nat.le_of_ble_eq_true rfl) ?_
  have hN := hw.2.2.1
  have hlp : ∀ (b : Int32) (g : Rg), Wf g → nC g = nC h → bndS g a (nC h) = bindS h a x y z → ∀ n k : Nat, k + n = nC h → T X l yX1_bindAnew cX1_bindAnew 8 (some .int) 5 42 [some (.ref (adr X 1 r 0)), some (.int (nI a)), some (.int x), some (.int y), some (.int z), some (.int b), some (.int (nI (bndS g a k).2)), some (.int (nI k))] [] (setR σ0 1 r (bndS g a k).1) (Ex (some (.int (nI (bindS h a x y z).2))) (setR σ0 1 r (bindS h a x y z).1)) := by
    intro b g hg hgc hgb
    have hwk : ∀ k, Wf (bndS g a k).1 := fun k => hg.congr (bndS_0 _ _ k)
    have hck : ∀ k, (bndS g a k).1 0 0 = nI (nC h) := fun k => by rw [bndS_0, ← hgc]; exact hg.1
    intro n
    induction n with
    | zero =>
      intro k hk
      have hk : k = nC h := by omega
      subst hk
      refine T_iload dX1_bindAnew_42 rfl ?_
      refine T_aload_n dX1_bindAnew_44 rfl rfl ?_
      refine T_g1F hv1 0 (by decide) fl_X1_48 rfl dX1_bindAnew_45 ?_
      refine T_icmp_ge 76 dX1_bindAnew_48 (by decide) (fun h48 => ?_) (fun h48 => (absurd (by rw [hck]; exact nI_le (Nat.le_refl _) (by omega)) h48))
      refine T_iload dX1_bindAnew_76 rfl ?_
      refine T_iret rfl dX1_bindAnew_78 ?_
      exact ⟨by rw [hgb], by rw [hgb]⟩
    | succ n ih =>
      intro k hk
      have hnx := ih (k + 1) (by omega)
      have hk : k < nC h := by omega
      refine T_iload dX1_bindAnew_42 rfl ?_
      refine T_aload_n dX1_bindAnew_44 rfl rfl ?_
      refine T_g1F hv1 0 (by decide) fl_X1_48 rfl dX1_bindAnew_45 ?_
      refine T_icmp_ge 76 dX1_bindAnew_48 (by decide) (fun h48 => (absurd ((hck k) ▸ h48) (nI_ge hk (by omega)))) (fun h48 => ?_)
      refine T_iload dX1_bindAnew_51 rfl ?_
      refine T_iload_n dX1_bindAnew_53 rfl rfl ?_
      refine T_icmp_eq 70 dX1_bindAnew_54 (by decide) (fun h54 => ?_) (fun h54 => ?_)
      · first | refine T_iincN7 dX1_bindAnew_70 rfl (by decide) ?_ | refine T_iinc7 dX1_bindAnew_70 rfl rfl (by decide) ?_
        refine T_goto 42 dX1_bindAnew_73 (by decide) ?_
        first | (rw [bndS, if_pos (nIe h54 (by omega) (by omega))] at hnx; exact hnx) | (rw [bndS, if_neg (nIn h54), if_pos (b01_1 h64)] at hnx; rw [pifS, if_pos (b01_1 h64)]; exact hnx) | (rw [bndS, if_neg (nIn h54), if_neg (b01_0 h64)] at hnx; rw [pifS, if_neg (b01_0 h64)]; exact hnx)
      · refine T_aload_n dX1_bindAnew_57 rfl rfl ?_
        refine T_iload dX1_bindAnew_58 rfl ?_
        refine T_iload_n dX1_bindAnew_60 rfl rfl ?_
        refine T_vi (Rc_of (hv1 0 (by decide)) rfl rfl) (k_X1_pushIfOver hv1 (hwk k) (by omega) (by omega)) ml_X1_117 im_yX1_pushIfOver se_RX1_yX1_pushIfOver ini_RX1 co_yX1_pushIfOver rfl de_X1_pushIfOver (by decide) (by decide) rfl (Nat.le_of_ble_eq_true rfl) dX1_bindAnew_61 ?_
        refine T_if_eq 70 dX1_bindAnew_64 (by decide) (fun h64 => ?_) (fun h64 => ?_)
        · first | refine T_iincN7 dX1_bindAnew_70 rfl (by decide) ?_ | refine T_iinc7 dX1_bindAnew_70 rfl rfl (by decide) ?_
          refine T_goto 42 dX1_bindAnew_73 (by decide) ?_
          first | (rw [bndS, if_pos (nIe h54 (by omega) (by omega))] at hnx; exact hnx) | (rw [bndS, if_neg (nIn h54), if_pos (b01_1 h64)] at hnx; rw [pifS, if_pos (b01_1 h64)]; exact hnx) | (rw [bndS, if_neg (nIn h54), if_neg (b01_0 h64)] at hnx; rw [pifS, if_neg (b01_0 h64)]; exact hnx)
        · first | refine T_iincN6 dX1_bindAnew_67 rfl (by decide) ?_ | refine T_iinc6 dX1_bindAnew_67 rfl rfl (by decide) ?_
          first | refine T_iincN7 dX1_bindAnew_70 rfl (by decide) ?_ | refine T_iinc7 dX1_bindAnew_70 rfl rfl (by decide) ?_
          refine T_goto 42 dX1_bindAnew_73 (by decide) ?_
          first | (rw [bndS, if_pos (nIe h54 (by omega) (by omega))] at hnx; exact hnx) | (rw [bndS, if_neg (nIn h54), if_pos (b01_1 h64)] at hnx; rw [pifS, if_pos (b01_1 h64)]; exact hnx) | (rw [bndS, if_neg (nIn h54), if_neg (b01_0 h64)] at hnx; rw [pifS, if_neg (b01_0 h64)]; exact hnx)
  refine T_aload_n dX1_bindAnew_0 rfl rfl ?_
  refine T_g1F hv1 3 (by decide) fl_X1_9 rfl dX1_bindAnew_1 ?_
  refine T_iload_n dX1_bindAnew_4 rfl rfl ?_
  refine T_ialdF (hv1 _ (by decide)) rfl (Nat.le_of_ble_eq_true rfl) _ (by omega) rfl dX1_bindAnew_5 ?_
  refine T_iload_n dX1_bindAnew_6 rfl rfl ?_
  refine T_icmp_eq 14 dX1_bindAnew_7 (by decide) (fun h7 => ?_) (fun h7 => ?_)
  · refine T_iconst (v := nI 0) dX1_bindAnew_14 rfl ?_
    refine T_istore5 dX1_bindAnew_15 rfl (by decide) ?_
    refine T_aload_n dX1_bindAnew_17 rfl rfl ?_
    refine T_iload_n dX1_bindAnew_18 rfl rfl ?_
    refine T_iload_n dX1_bindAnew_19 rfl rfl ?_
    refine T_iload_n dX1_bindAnew_20 rfl rfl ?_
    refine T_iload dX1_bindAnew_21 rfl ?_
    refine T_vv (Rc_of (hv1 0 (by decide)) rfl rfl) (k_X1_setBounds hv1 (by omega)) ml_X1_129 im_yX1_setBounds se_RX1_yX1_setBounds ini_RX1 co_yX1_setBounds rfl de_X1_setBounds (by decide) (by decide) rfl (Nat.le_of_ble_eq_true rfl) dX1_bindAnew_23 ?_
    refine T_iload dX1_bindAnew_26 rfl ?_
    refine T_if_eq 36 dX1_bindAnew_28 (by decide) (fun h28 => ?_) (fun h28 => ?_)
    · refine T_iconst (v := nI 0) dX1_bindAnew_36 rfl ?_
      refine T_istore6 dX1_bindAnew_37 rfl (by decide) ?_
      refine T_iconst (v := nI 0) dX1_bindAnew_39 rfl ?_
      refine T_istore7 dX1_bindAnew_40 rfl (by decide) ?_
      first | (exact (nope1 h28).elim) | (exact (nope0 h28).elim) | (refine hlp _ (setbS h a x y z) (hw.congr rfl) rfl ?_ (nC h) 0 (Nat.zero_add _); rw [bindS, if_pos h7]) | (refine hlp _ (splS (setbS h a x y z) a (nC h)) (hw.congr (splS_k (setbS h a x y z) a n07 (nC h))) (nC_congr (splS_k (setbS h a x y z) a n07 (nC h))) ?_ (nC h) 0 (Nat.zero_add _); rw [bindS, if_neg h7])
    · refine T_aload_n dX1_bindAnew_31 rfl rfl ?_
      refine T_iload_n dX1_bindAnew_32 rfl rfl ?_
      refine T_vv (Rc_of (hv1 0 (by decide)) rfl rfl) (k_X1_splitNumber hv1 (hw.congr rfl) (by omega)) ml_X1_70 im_yX1_splitNumber se_RX1_yX1_splitNumber ini_RX1 co_yX1_splitNumber rfl de_X1_splitNumber (by decide) (by decide) rfl (Nat.le_of_ble_eq_true rfl) dX1_bindAnew_33 ?_
      refine T_iconst (v := nI 0) dX1_bindAnew_36 rfl ?_
      refine T_istore6 dX1_bindAnew_37 rfl (by decide) ?_
      refine T_iconst (v := nI 0) dX1_bindAnew_39 rfl ?_
      refine T_istore7 dX1_bindAnew_40 rfl (by decide) ?_
      first | (exact (nope1 h28).elim) | (exact (nope0 h28).elim) | (refine hlp _ (setbS h a x y z) (hw.congr rfl) rfl ?_ (nC h) 0 (Nat.zero_add _); rw [bindS, if_pos h7]) | (refine hlp _ (splS (setbS h a x y z) a (nC h)) (hw.congr (splS_k (setbS h a x y z) a n07 (nC h))) (nC_congr (splS_k (setbS h a x y z) a n07 (nC h))) ?_ (nC h) 0 (Nat.zero_add _); rw [bindS, if_neg h7])
  · refine T_iconst (v := nI 1) dX1_bindAnew_10 rfl ?_
    refine T_goto 15 dX1_bindAnew_11 (by decide) ?_
    refine T_istore5 dX1_bindAnew_15 rfl (by decide) ?_
    refine T_aload_n dX1_bindAnew_17 rfl rfl ?_
    refine T_iload_n dX1_bindAnew_18 rfl rfl ?_
    refine T_iload_n dX1_bindAnew_19 rfl rfl ?_
    refine T_iload_n dX1_bindAnew_20 rfl rfl ?_
    refine T_iload dX1_bindAnew_21 rfl ?_
    refine T_vv (Rc_of (hv1 0 (by decide)) rfl rfl) (k_X1_setBounds hv1 (by omega)) ml_X1_129 im_yX1_setBounds se_RX1_yX1_setBounds ini_RX1 co_yX1_setBounds rfl de_X1_setBounds (by decide) (by decide) rfl (Nat.le_of_ble_eq_true rfl) dX1_bindAnew_23 ?_
    refine T_iload dX1_bindAnew_26 rfl ?_
    refine T_if_eq 36 dX1_bindAnew_28 (by decide) (fun h28 => ?_) (fun h28 => ?_)
    · refine T_iconst (v := nI 0) dX1_bindAnew_36 rfl ?_
      refine T_istore6 dX1_bindAnew_37 rfl (by decide) ?_
      refine T_iconst (v := nI 0) dX1_bindAnew_39 rfl ?_
      refine T_istore7 dX1_bindAnew_40 rfl (by decide) ?_
      first | (exact (nope1 h28).elim) | (exact (nope0 h28).elim) | (refine hlp _ (setbS h a x y z) (hw.congr rfl) rfl ?_ (nC h) 0 (Nat.zero_add _); rw [bindS, if_pos h7]) | (refine hlp _ (splS (setbS h a x y z) a (nC h)) (hw.congr (splS_k (setbS h a x y z) a n07 (nC h))) (nC_congr (splS_k (setbS h a x y z) a n07 (nC h))) ?_ (nC h) 0 (Nat.zero_add _); rw [bindS, if_neg h7])
    · refine T_aload_n dX1_bindAnew_31 rfl rfl ?_
      refine T_iload_n dX1_bindAnew_32 rfl rfl ?_
      refine T_vv (Rc_of (hv1 0 (by decide)) rfl rfl) (k_X1_splitNumber hv1 (hw.congr rfl) (by omega)) ml_X1_70 im_yX1_splitNumber se_RX1_yX1_splitNumber ini_RX1 co_yX1_splitNumber rfl de_X1_splitNumber (by decide) (by decide) rfl (Nat.le_of_ble_eq_true rfl) dX1_bindAnew_33 ?_
      refine T_iconst (v := nI 0) dX1_bindAnew_36 rfl ?_
      refine T_istore6 dX1_bindAnew_37 rfl (by decide) ?_
      refine T_iconst (v := nI 0) dX1_bindAnew_39 rfl ?_
      refine T_istore7 dX1_bindAnew_40 rfl (by decide) ?_
      first | (exact (nope1 h28).elim) | (exact (nope0 h28).elim) | (refine hlp _ (setbS h a x y z) (hw.congr rfl) rfl ?_ (nC h) 0 (Nat.zero_add _); rw [bindS, if_pos h7]) | (refine hlp _ (splS (setbS h a x y z) a (nC h)) (hw.congr (splS_k (setbS h a x y z) a n07 (nC h))) (nC_congr (splS_k (setbS h a x y z) a n07 (nC h))) ?_ (nC h) 0 (Nat.zero_add _); rw [bindS, if_neg h7])
end
section
set_option maxHeartbeats 4000000 in
set_option maxRecDepth 100000 in
theorem k_J7_fill_53178 {X : Cx} {l : Launch} {σ0 : Hp} {h : Rg} {r : Nat} {q n : Nat} {v : Int32} (hid : (1, r, q) ∈ ids X) (hc : ∀ g : Nat → Int32, cel X g 1 r q = arI X 0 n g) (hn : n < 1000) : Con X l yJ7_fill_53178 cJ7_fill_53178 4 none 0 [.ref (adr X 1 r q), .int v] (setR σ0 1 r h) (Ex none (setR σ0 1 r (up1 h q (fillT (h q) v n)))) := by
  refine Con_of [some (.ref (adr X 1 r q)), some (.int v), none, none] (by decide) rfl (Nat.le_of_ble_eq_true rfl) ?_
  have hlp : ∀ e k : Nat, k + e = n → T X l yJ7_fill_53178 cJ7_fill_53178 4 none 0 5 [some (.ref (adr X 1 r q)), some (.int v), some (.int (nI k)), some (.int (nI n))] [] (setR σ0 1 r (up1 h q (fillT (h q) v k))) (Ex none (setR σ0 1 r (up1 h q (fillT (h q) v n)))) := by
    intro e
    induction e with
    | zero =>
      intro k hk
      have hk : k = n := by omega
      subst hk
      refine T_iload_n dJ7_fill_53178_5 rfl rfl ?_
      refine T_iload_n dJ7_fill_53178_6 rfl rfl ?_
      refine T_icmp_ge 20 dJ7_fill_53178_7 (by decide) (fun h7 => ?_) (fun h7 => (absurd (nI_le (Nat.le_refl _) (by omega)) h7))
      refine T_vret rfl dJ7_fill_53178_20 ?_
      exact ⟨rfl, rfl⟩
    | succ e ih =>
      intro k hk
      have hnx := ih (k + 1) (by omega)
      have hk : k < n := by omega
      refine T_iload_n dJ7_fill_53178_5 rfl rfl ?_
      refine T_iload_n dJ7_fill_53178_6 rfl rfl ?_
      refine T_icmp_ge 20 dJ7_fill_53178_7 (by decide) (fun h7 => (absurd h7 (nI_ge hk (by omega)))) (fun h7 => ?_)
      refine T_aload_n dJ7_fill_53178_10 rfl rfl ?_
      refine T_iload_n dJ7_fill_53178_11 rfl rfl ?_
      refine T_iload_n dJ7_fill_53178_12 rfl rfl ?_
      refine T_iastF hid hc (by omega) _ (by omega) rfl dJ7_fill_53178_13 ?_
      first | refine T_iincN2 dJ7_fill_53178_14 rfl (by decide) ?_ | refine T_iinc2 dJ7_fill_53178_14 rfl rfl (by decide) ?_
      refine T_goto 5 dJ7_fill_53178_17 (by decide) ?_
      rw [up2_of1]; exact hnx
  refine T_iconst (v := nI 0) dJ7_fill_53178_0 rfl ?_
  refine T_istore2 dJ7_fill_53178_1 rfl (by decide) ?_
  refine T_aload_n dJ7_fill_53178_2 rfl rfl ?_
  refine T_alen (g := h q) (by rw [setR_self]) hid (hc _) (by decide) (v := nI n) rfl dJ7_fill_53178_3 ?_
  refine T_istore3 dJ7_fill_53178_4 rfl (by decide) ?_
  have h0 := hlp n 0 (by omega)
  rw [show up1 h q (fillT (h q) v 0) = h from up1_id h q] at h0
  exact h0
set_option maxHeartbeats 4000000 in
set_option maxRecDepth 100000 in
theorem k_X1_startAnew {X : Cx} {l : Launch} {σ0 : Hp} {h : Rg} {r : Nat} (hv1 : Lv X 1 r) : Con X l yX1_startAnew cX1_startAnew 1 none 1 [.ref (adr X 1 r 0)] (setR σ0 1 r h) (Ex none (setR σ0 1 r (newS h))) := by
  refine Con_of [some (.ref (adr X 1 r 0))] (by decide) rfl (Nat.le_of_ble_eq_true rfl) ?_
  refine T_aload_n dX1_startAnew_0 rfl rfl ?_
  refine T_iconst (v := nI 3) dX1_startAnew_1 rfl ?_
  refine T_p1F hv1 0 (by decide) rfl rfl fl_X1_48 (by decide) rfl dX1_startAnew_2 ?_
  refine T_aload_n dX1_startAnew_5 rfl rfl ?_
  refine T_iconst (v := nI 0) dX1_startAnew_6 rfl ?_
  refine T_p1F hv1 1 (by decide) rfl rfl fl_X1_52 (by decide) rfl dX1_startAnew_7 ?_
  refine T_aload_n dX1_startAnew_10 rfl rfl ?_
  refine T_iconst (v := nI 0) dX1_startAnew_11 rfl ?_
  refine T_p1F hv1 2 (by decide) rfl rfl fl_X1_55 (by decide) rfl dX1_startAnew_12 ?_
  refine T_aload_n dX1_startAnew_15 rfl rfl ?_
  refine T_g1F hv1 3 (by decide) fl_X1_9 rfl dX1_startAnew_16 ?_
  refine T_bipush (v := nI 99) dX1_startAnew_19 (by decide) ?_
  refine T_sv (k_J7_fill_53178 (hv1 _ (by decide)) (fun _ => rfl) (by decide)) ml_X1_58 sm_yJ7_fill_53178 ini_RJ7 co_yJ7_fill_53178 de_J7_fill_53178 (by decide) (by decide) rfl (Nat.le_of_ble_eq_true rfl) dX1_startAnew_21 ?_
  refine T_aload_n dX1_startAnew_24 rfl rfl ?_
  refine T_g1F hv1 4 (by decide) fl_X1_15 rfl dX1_startAnew_25 ?_
  refine T_bipush (v := nI 9) dX1_startAnew_28 (by decide) ?_
  refine T_sv (k_J7_fill_53178 (hv1 _ (by decide)) (fun _ => rfl) (by decide)) ml_X1_58 sm_yJ7_fill_53178 ini_RJ7 co_yJ7_fill_53178 de_J7_fill_53178 (by decide) (by decide) rfl (Nat.le_of_ble_eq_true rfl) dX1_startAnew_30 ?_
  refine T_aload_n dX1_startAnew_33 rfl rfl ?_
  refine T_g1F hv1 5 (by decide) fl_X1_18 rfl dX1_startAnew_34 ?_
  refine T_bipush (v := nI 99) dX1_startAnew_37 (by decide) ?_
  refine T_sv (k_J7_fill_53178 (hv1 _ (by decide)) (fun _ => rfl) (by decide)) ml_X1_58 sm_yJ7_fill_53178 ini_RJ7 co_yJ7_fill_53178 de_J7_fill_53178 (by decide) (by decide) rfl (Nat.le_of_ble_eq_true rfl) dX1_startAnew_39 ?_
  refine T_aload_n dX1_startAnew_42 rfl rfl ?_
  refine T_g1F hv1 6 (by decide) fl_X1_21 rfl dX1_startAnew_43 ?_
  refine T_iconst (v := nI 0) dX1_startAnew_46 rfl ?_
  refine T_sv (k_J7_fill_53178 (hv1 _ (by decide)) (fun _ => rfl) (by decide)) ml_X1_58 sm_yJ7_fill_53178 ini_RJ7 co_yJ7_fill_53178 de_J7_fill_53178 (by decide) (by decide) rfl (Nat.le_of_ble_eq_true rfl) dX1_startAnew_47 ?_
  refine T_aload_n dX1_startAnew_50 rfl rfl ?_
  refine T_g1F hv1 7 (by decide) fl_X1_24 rfl dX1_startAnew_51 ?_
  refine T_iconst (v := nI 0) dX1_startAnew_54 rfl ?_
  refine T_sv (k_J7_fill_53178 (hv1 _ (by decide)) (fun _ => rfl) (by decide)) ml_X1_58 sm_yJ7_fill_53178 ini_RJ7 co_yJ7_fill_53178 de_J7_fill_53178 (by decide) (by decide) rfl (Nat.le_of_ble_eq_true rfl) dX1_startAnew_55 ?_
  refine T_aload_n dX1_startAnew_58 rfl rfl ?_
  refine T_g1F hv1 8 (by decide) fl_X1_27 rfl dX1_startAnew_59 ?_
  refine T_iconst (v := nI 0) dX1_startAnew_62 rfl ?_
  refine T_sv (k_J7_fill_53178 (hv1 _ (by decide)) (fun _ => rfl) (by decide)) ml_X1_58 sm_yJ7_fill_53178 ini_RJ7 co_yJ7_fill_53178 de_J7_fill_53178 (by decide) (by decide) rfl (Nat.le_of_ble_eq_true rfl) dX1_startAnew_63 ?_
  refine T_vret rfl dX1_startAnew_66 ?_
  exact ⟨rfl, rfl⟩
set_option maxHeartbeats 4000000 in
set_option maxRecDepth 100000 in
theorem k_X1_takeFrom {X : Cx} {l : Launch} {σ0 : Hp} {h : Rg} {r : Nat} {r2 : Nat} (hne : ¬ r2 = r) (hv1 : Lv X 1 r) (hv2 : Lv X 1 r2) : Con X l yX1_takeFrom cX1_takeFrom 2 none 2 [.ref (adr X 1 r 0), .ref (adr X 1 r2 0)] (setR σ0 1 r h) (Ex none (setR σ0 1 r (σ0 1 r2))) := by
  refine Con_of [some (.ref (adr X 1 r 0)), some (.ref (adr X 1 r2 0))] (by decide) rfl (Nat.le_of_ble_eq_true rfl) ?_
  refine T_aload_n dX1_takeFrom_0 rfl rfl ?_
  refine T_aload_n dX1_takeFrom_1 rfl rfl ?_
  refine T_g1O hne hv2 0 (by decide) fl_X1_48 rfl dX1_takeFrom_2 ?_
  refine T_p1F hv1 0 (by decide) rfl rfl fl_X1_48 (by decide) rfl dX1_takeFrom_5 ?_
  refine T_aload_n dX1_takeFrom_8 rfl rfl ?_
  refine T_aload_n dX1_takeFrom_9 rfl rfl ?_
  refine T_g1O hne hv2 1 (by decide) fl_X1_52 rfl dX1_takeFrom_10 ?_
  refine T_p1F hv1 1 (by decide) rfl rfl fl_X1_52 (by decide) rfl dX1_takeFrom_13 ?_
  refine T_aload_n dX1_takeFrom_16 rfl rfl ?_
  refine T_aload_n dX1_takeFrom_17 rfl rfl ?_
  refine T_g1O hne hv2 2 (by decide) fl_X1_55 rfl dX1_takeFrom_18 ?_
  refine T_p1F hv1 2 (by decide) rfl rfl fl_X1_55 (by decide) rfl dX1_takeFrom_21 ?_
  refine T_aload_n dX1_takeFrom_24 rfl rfl ?_
  refine T_g1O hne hv2 3 (by decide) fl_X1_9 rfl dX1_takeFrom_25 ?_
  refine T_iconst (v := nI 0) dX1_takeFrom_28 rfl ?_
  refine T_aload_n dX1_takeFrom_29 rfl rfl ?_
  refine T_g1F hv1 3 (by decide) fl_X1_9 rfl dX1_takeFrom_30 ?_
  refine T_iconst (v := nI 0) dX1_takeFrom_33 rfl ?_
  refine T_iconst (v := nI 4) dX1_takeFrom_34 rfl ?_
  refine T_acO hne ml_X1_64 (hv2 _ (by decide)) (hv1 _ (by decide)) (fun _ => rfl) (fun _ => rfl) (Nat.le_of_ble_eq_true rfl) rfl (by decide) (Nat.le_of_ble_eq_true rfl) dX1_takeFrom_35 ?_
  refine T_aload_n dX1_takeFrom_38 rfl rfl ?_
  refine T_g1O hne hv2 4 (by decide) fl_X1_15 rfl dX1_takeFrom_39 ?_
  refine T_iconst (v := nI 0) dX1_takeFrom_42 rfl ?_
  refine T_aload_n dX1_takeFrom_43 rfl rfl ?_
  refine T_g1F hv1 4 (by decide) fl_X1_15 rfl dX1_takeFrom_44 ?_
  refine T_iconst (v := nI 0) dX1_takeFrom_47 rfl ?_
  refine T_iconst (v := nI 4) dX1_takeFrom_48 rfl ?_
  refine T_acO hne ml_X1_64 (hv2 _ (by decide)) (hv1 _ (by decide)) (fun _ => rfl) (fun _ => rfl) (Nat.le_of_ble_eq_true rfl) rfl (by decide) (Nat.le_of_ble_eq_true rfl) dX1_takeFrom_49 ?_
  refine T_aload_n dX1_takeFrom_52 rfl rfl ?_
  refine T_g1O hne hv2 5 (by decide) fl_X1_18 rfl dX1_takeFrom_53 ?_
  refine T_iconst (v := nI 0) dX1_takeFrom_56 rfl ?_
  refine T_aload_n dX1_takeFrom_57 rfl rfl ?_
  refine T_g1F hv1 5 (by decide) fl_X1_18 rfl dX1_takeFrom_58 ?_
  refine T_iconst (v := nI 0) dX1_takeFrom_61 rfl ?_
  refine T_iconst (v := nI 4) dX1_takeFrom_62 rfl ?_
  refine T_acO hne ml_X1_64 (hv2 _ (by decide)) (hv1 _ (by decide)) (fun _ => rfl) (fun _ => rfl) (Nat.le_of_ble_eq_true rfl) rfl (by decide) (Nat.le_of_ble_eq_true rfl) dX1_takeFrom_63 ?_
  refine T_aload_n dX1_takeFrom_66 rfl rfl ?_
  refine T_g1O hne hv2 6 (by decide) fl_X1_21 rfl dX1_takeFrom_67 ?_
  refine T_iconst (v := nI 0) dX1_takeFrom_70 rfl ?_
  refine T_aload_n dX1_takeFrom_71 rfl rfl ?_
  refine T_g1F hv1 6 (by decide) fl_X1_21 rfl dX1_takeFrom_72 ?_
  refine T_iconst (v := nI 0) dX1_takeFrom_75 rfl ?_
  refine T_iconst (v := nI 4) dX1_takeFrom_76 rfl ?_
  refine T_acO hne ml_X1_64 (hv2 _ (by decide)) (hv1 _ (by decide)) (fun _ => rfl) (fun _ => rfl) (Nat.le_of_ble_eq_true rfl) rfl (by decide) (Nat.le_of_ble_eq_true rfl) dX1_takeFrom_77 ?_
  refine T_aload_n dX1_takeFrom_80 rfl rfl ?_
  refine T_g1O hne hv2 7 (by decide) fl_X1_24 rfl dX1_takeFrom_81 ?_
  refine T_iconst (v := nI 0) dX1_takeFrom_84 rfl ?_
  refine T_aload_n dX1_takeFrom_85 rfl rfl ?_
  refine T_g1F hv1 7 (by decide) fl_X1_24 rfl dX1_takeFrom_86 ?_
  refine T_iconst (v := nI 0) dX1_takeFrom_89 rfl ?_
  refine T_iconst (v := nI 4) dX1_takeFrom_90 rfl ?_
  refine T_acO hne ml_X1_64 (hv2 _ (by decide)) (hv1 _ (by decide)) (fun _ => rfl) (fun _ => rfl) (Nat.le_of_ble_eq_true rfl) rfl (by decide) (Nat.le_of_ble_eq_true rfl) dX1_takeFrom_91 ?_
  refine T_aload_n dX1_takeFrom_94 rfl rfl ?_
  refine T_g1O hne hv2 8 (by decide) fl_X1_27 rfl dX1_takeFrom_95 ?_
  refine T_iconst (v := nI 0) dX1_takeFrom_98 rfl ?_
  refine T_aload_n dX1_takeFrom_99 rfl rfl ?_
  refine T_g1F hv1 8 (by decide) fl_X1_27 rfl dX1_takeFrom_100 ?_
  refine T_iconst (v := nI 0) dX1_takeFrom_103 rfl ?_
  refine T_bipush (v := nI 16) dX1_takeFrom_104 (by decide) ?_
  refine T_acO hne ml_X1_64 (hv2 _ (by decide)) (hv1 _ (by decide)) (fun _ => rfl) (fun _ => rfl) (Nat.le_of_ble_eq_true rfl) rfl (by decide) (Nat.le_of_ble_eq_true rfl) dX1_takeFrom_106 ?_
  refine T_aload_n dX1_takeFrom_109 rfl rfl ?_
  refine T_g1O hne hv2 9 (by decide) fl_X1_30 rfl dX1_takeFrom_110 ?_
  refine T_iconst (v := nI 0) dX1_takeFrom_113 rfl ?_
  refine T_aload_n dX1_takeFrom_114 rfl rfl ?_
  refine T_g1F hv1 9 (by decide) fl_X1_30 rfl dX1_takeFrom_115 ?_
  refine T_iconst (v := nI 0) dX1_takeFrom_118 rfl ?_
  refine T_bipush (v := nI 16) dX1_takeFrom_119 (by decide) ?_
  refine T_acO hne ml_X1_64 (hv2 _ (by decide)) (hv1 _ (by decide)) (fun _ => rfl) (fun _ => rfl) (Nat.le_of_ble_eq_true rfl) rfl (by decide) (Nat.le_of_ble_eq_true rfl) dX1_takeFrom_121 ?_
  refine T_aload_n dX1_takeFrom_124 rfl rfl ?_
  refine T_g1O hne hv2 10 (by decide) fl_X1_33 rfl dX1_takeFrom_125 ?_
  refine T_iconst (v := nI 0) dX1_takeFrom_128 rfl ?_
  refine T_aload_n dX1_takeFrom_129 rfl rfl ?_
  refine T_g1F hv1 10 (by decide) fl_X1_33 rfl dX1_takeFrom_130 ?_
  refine T_iconst (v := nI 0) dX1_takeFrom_133 rfl ?_
  refine T_bipush (v := nI 24) dX1_takeFrom_134 (by decide) ?_
  refine T_acO hne ml_X1_64 (hv2 _ (by decide)) (hv1 _ (by decide)) (fun _ => rfl) (fun _ => rfl) (Nat.le_of_ble_eq_true rfl) rfl (by decide) (Nat.le_of_ble_eq_true rfl) dX1_takeFrom_136 ?_
  refine T_aload_n dX1_takeFrom_139 rfl rfl ?_
  refine T_g1O hne hv2 11 (by decide) fl_X1_36 rfl dX1_takeFrom_140 ?_
  refine T_iconst (v := nI 0) dX1_takeFrom_143 rfl ?_
  refine T_aload_n dX1_takeFrom_144 rfl rfl ?_
  refine T_g1F hv1 11 (by decide) fl_X1_36 rfl dX1_takeFrom_145 ?_
  refine T_iconst (v := nI 0) dX1_takeFrom_148 rfl ?_
  refine T_bipush (v := nI 24) dX1_takeFrom_149 (by decide) ?_
  refine T_acO hne ml_X1_64 (hv2 _ (by decide)) (hv1 _ (by decide)) (fun _ => rfl) (fun _ => rfl) (Nat.le_of_ble_eq_true rfl) rfl (by decide) (Nat.le_of_ble_eq_true rfl) dX1_takeFrom_151 ?_
  refine T_aload_n dX1_takeFrom_154 rfl rfl ?_
  refine T_g1O hne hv2 12 (by decide) fl_X1_39 rfl dX1_takeFrom_155 ?_
  refine T_iconst (v := nI 0) dX1_takeFrom_158 rfl ?_
  refine T_aload_n dX1_takeFrom_159 rfl rfl ?_
  refine T_g1F hv1 12 (by decide) fl_X1_39 rfl dX1_takeFrom_160 ?_
  refine T_iconst (v := nI 0) dX1_takeFrom_163 rfl ?_
  refine T_bipush (v := nI 24) dX1_takeFrom_164 (by decide) ?_
  refine T_acO hne ml_X1_64 (hv2 _ (by decide)) (hv1 _ (by decide)) (fun _ => rfl) (fun _ => rfl) (Nat.le_of_ble_eq_true rfl) rfl (by decide) (Nat.le_of_ble_eq_true rfl) dX1_takeFrom_166 ?_
  refine T_re (σ' := setR σ0 1 r (σ0 1 r2)) ?_ (T_vret rfl dX1_takeFrom_169 ⟨rfl, rfl⟩)
  intro K r' k _ hk
  unfold setR
  by_cases hc : K = 1 ∧ r' = r
  · rw [if_pos hc, if_pos hc]
    obtain ⟨rfl, rfl⟩ := hc
    have hk : k < 11 := hk
    rcases (show k = 0 ∨ k = 1 ∨ k = 2 ∨ k = 3 ∨ k = 4 ∨ k = 5 ∨ k = 6 ∨ k = 7 ∨ k = 8 ∨ k = 9 ∨ k = 10 by omega) with rfl | rfl | rfl | rfl | rfl | rfl | rfl | rfl | rfl | rfl | rfl <;> rfl
  · rw [if_neg hc, if_neg hc]
theorem k_takeU {X : Cx} {l : Launch} {σ : Hp} {r r2 : Nat} (hne : ¬ r2 = r) (hv1 : Lv X 1 r) (hv2 : Lv X 1 r2) : Con X l yX1_takeFrom cX1_takeFrom 2 none 2 [.ref (adr X 1 r 0), .ref (adr X 1 r2 0)] σ (Ex none (setR σ 1 r (σ 1 r2))) := by
  have h0 := k_X1_takeFrom (l := l) (σ0 := σ) (h := σ 1 r) hne hv1 hv2
  rw [setR_id] at h0
  exact h0
end
section
/-! ===== history ===== -/
def remS (σ : Hp) (nx kn : Nat) : Hp := setR (setR σ 1 (2 + nx) (σ 1 0)) 2 0 (up2 (up2 (σ 2 0) 0 1 (nI (if nx + 1 < 8 then nx + 1 else 0))) 0 2 (if nI 8 < nI (kn + 1) then nI 8 else nI (kn + 1)))
def prv (nx : Nat) : Nat := if 0 < nx then nx - 1 else 7
def resS (σ : Hp) (nx kn : Nat) : Hp := setR (setR σ 2 0 (up2 (up2 (σ 2 0) 0 1 (nI (prv nx))) 0 2 (nI (kn - 1)))) 1 0 (σ 1 (2 + prv nx))

set_option maxHeartbeats 4000000 in
set_option maxRecDepth 100000 in
theorem k_X0_remember {X : Cx} {l : Launch} {σ : Hp} {nx kn : Nat} (hv2 : Lv X 2 0) (hx : σ 2 0 0 1 = nI nx) (hx8 : nx < 8) (hk : σ 2 0 0 2 = nI kn) (hk8 : kn ≤ 8) (hv1 : Lv X 1 0) (hvn : Lv X 1 (2 + nx)) : Con X l yX0_remember cX0_remember 2 none 3 [.ref (adr X 2 0 0), .ref (adr X 1 0 0)] σ (Ex none (remS σ nx kn)) := by
  refine Con_of [some (.ref (adr X 2 0 0)), some (.ref (adr X 1 0 0))] (by decide) rfl (Nat.le_of_ble_eq_true rfl) ?_
  have hA : ¬ nI 8 ≤ nI (nx + 1) → nx + 1 < 8 := fun h => Classical.byContradiction fun q => h (nI_le (by omega) (by omega))
  have hB : nI 8 ≤ nI (nx + 1) → ¬ nx + 1 < 8 := fun h q => absurd h (nI_ge q (by omega))
  refine T_aload_n dX0_remember_0 rfl rfl ?_
  refine T_g2 hv2 0 (by decide) fl_X0_11 rfl dX0_remember_1 ?_
  refine T_aload_n dX0_remember_4 rfl rfl ?_
  refine T_g2 (v := .int (nI nx)) hv2 1 (by decide) fl_X0_17 (congrArg (fun z => some (Value.int z)) hx) dX0_remember_5 ?_
  refine T_aald rfl (hv2 1 (by decide)) rfl (Nat.le_of_ble_eq_true rfl) nx hx8 rfl rfl dX0_remember_8 ?_
  refine T_aload_n dX0_remember_9 rfl rfl ?_
  refine T_vv (Rc_of (hvn 0 (by decide)) rfl rfl) (k_takeU (show ¬ 0 = 2 + nx by omega) hvn hv1) ml_X0_25 im_yX1_takeFrom se_RX1_yX1_takeFrom ini_RX1 co_yX1_takeFrom rfl de_X1_takeFrom (by decide) (by decide) rfl (Nat.le_of_ble_eq_true rfl) dX0_remember_10 ?_
  refine T_aload_n dX0_remember_13 rfl rfl ?_
  refine T_aload_n dX0_remember_14 rfl rfl ?_
  refine T_g2 (v := .int (nI nx)) hv2 1 (by decide) fl_X0_17 (congrArg (fun z => some (Value.int z)) hx) dX0_remember_15 ?_
  refine T_iconst (v := nI 1) dX0_remember_18 rfl ?_
  first | refine T_iaddN dX0_remember_19 ?_ | refine T_iadd dX0_remember_19 ?_
  refine T_bipush (v := nI 8) dX0_remember_20 (by decide) ?_
  refine T_icmp_ge 34 dX0_remember_22 (by decide) (fun h22 => ?_) (fun h22 => ?_)
  · refine T_iconst (v := nI 0) dX0_remember_34 rfl ?_
    refine T_p2 hv2 1 (by decide) rfl rfl fl_X0_17 (by decide) rfl rfl dX0_remember_35 ?_
    refine T_aload_n dX0_remember_38 rfl rfl ?_
    refine T_aload_n dX0_remember_39 rfl rfl ?_
    refine T_g2 (v := .int (nI kn)) hv2 2 (by decide) fl_X0_21 (congrArg (fun z => some (Value.int z)) hk) dX0_remember_40 ?_
    refine T_iconst (v := nI 1) dX0_remember_43 rfl ?_
    first | refine T_iaddN dX0_remember_44 ?_ | refine T_iadd dX0_remember_44 ?_
    refine T_bipush (v := nI 8) dX0_remember_45 (by decide) ?_
    refine T_min ml_X0_29 sm_Lib_Math_min_name ini__java_lang_Math_ co_Lib_Math_min_name (by decide) (Nat.le_of_ble_eq_true rfl) dX0_remember_47 ?_
    refine T_p2 hv2 2 (by decide) rfl rfl fl_X0_21 (by decide) rfl rfl dX0_remember_50 ?_
    refine T_vret rfl dX0_remember_53 ?_
    first | (refine ⟨rfl, ?_⟩; rw [setR_setR, remS, if_pos (hA h22)]; rfl) | (refine ⟨rfl, ?_⟩; rw [setR_setR, remS, if_neg (hB h22)]; rfl)
  · refine T_aload_n dX0_remember_25 rfl rfl ?_
    refine T_g2 (v := .int (nI nx)) hv2 1 (by decide) fl_X0_17 (congrArg (fun z => some (Value.int z)) hx) dX0_remember_26 ?_
    refine T_iconst (v := nI 1) dX0_remember_29 rfl ?_
    first | refine T_iaddN dX0_remember_30 ?_ | refine T_iadd dX0_remember_30 ?_
    refine T_goto 35 dX0_remember_31 (by decide) ?_
    refine T_p2 hv2 1 (by decide) rfl rfl fl_X0_17 (by decide) rfl rfl dX0_remember_35 ?_
    refine T_aload_n dX0_remember_38 rfl rfl ?_
    refine T_aload_n dX0_remember_39 rfl rfl ?_
    refine T_g2 (v := .int (nI kn)) hv2 2 (by decide) fl_X0_21 (congrArg (fun z => some (Value.int z)) hk) dX0_remember_40 ?_
    refine T_iconst (v := nI 1) dX0_remember_43 rfl ?_
    first | refine T_iaddN dX0_remember_44 ?_ | refine T_iadd dX0_remember_44 ?_
    refine T_bipush (v := nI 8) dX0_remember_45 (by decide) ?_
    refine T_min ml_X0_29 sm_Lib_Math_min_name ini__java_lang_Math_ co_Lib_Math_min_name (by decide) (Nat.le_of_ble_eq_true rfl) dX0_remember_47 ?_
    refine T_p2 hv2 2 (by decide) rfl rfl fl_X0_21 (by decide) rfl rfl dX0_remember_50 ?_
    refine T_vret rfl dX0_remember_53 ?_
    first | (refine ⟨rfl, ?_⟩; rw [setR_setR, remS, if_pos (hA h22)]; rfl) | (refine ⟨rfl, ?_⟩; rw [setR_setR, remS, if_neg (hB h22)]; rfl)
set_option maxHeartbeats 4000000 in
set_option maxRecDepth 100000 in
theorem k_X0_lose {X : Cx} {l : Launch} {σ : Hp} (hv2 : Lv X 2 0) : Con X l yX0_lose cX0_lose 1 none 0 [.ref (adr X 2 0 0)] σ (Ex none (setR σ 2 0 (up2 (σ 2 0) 0 2 (nI 0)))) := by
  refine Con_of [some (.ref (adr X 2 0 0))] (by decide) rfl (Nat.le_of_ble_eq_true rfl) ?_
  refine T_aload_n dX0_lose_0 rfl rfl ?_
  refine T_iconst (v := nI 0) dX0_lose_1 rfl ?_
  refine T_p2 hv2 2 (by decide) rfl rfl fl_X0_21 (by decide) rfl rfl dX0_lose_2 ?_
  refine T_vret rfl dX0_lose_5 ?_
  exact ⟨rfl, rfl⟩
set_option maxHeartbeats 4000000 in
set_option maxRecDepth 100000 in
theorem k_X0_restore {X : Cx} {l : Launch} {σ : Hp} {nx kn : Nat} (hv2 : Lv X 2 0) (hx : σ 2 0 0 1 = nI nx) (hx8 : nx < 8) (hk : σ 2 0 0 2 = nI kn) (hk8 : kn ≤ 8) (hk0 : 0 < kn) (hv1 : Lv X 1 0) (hvn : Lv X 1 (2 + prv nx)) : Con X l yX0_restore cX0_restore 2 none 3 [.ref (adr X 2 0 0), .ref (adr X 1 0 0)] σ (Ex none (resS σ nx kn)) := by
  refine Con_of [some (.ref (adr X 2 0 0)), some (.ref (adr X 1 0 0))] (by decide) rfl (Nat.le_of_ble_eq_true rfl) ?_
  have hp8 : prv nx < 8 := by unfold prv; split <;> omega
  have hpp : ¬ nI nx ≤ 0 → 0 < nx := fun h5 => Classical.byContradiction fun q => h5 (nI_le (a := nx) (b := 0) (by omega) (by omega))
  have hpq : ¬ nI nx ≤ 0 → prv nx = nx - 1 := fun h5 => by unfold prv; rw [if_pos (hpp h5)]
  have hp7 : nI nx ≤ 0 → prv nx = 7 := fun h5 => by unfold prv; rw [if_neg (fun q => absurd h5 (nI_ge (a := 0) q (by omega)))]
  have hgo : T X l yX0_restore cX0_restore 2 none 3 19 [some (.ref (adr X 2 0 0)), some (.ref (adr X 1 0 0))] [.int (nI (prv nx)), .ref (adr X 2 0 0)] σ (Ex none (resS σ nx kn)) := by
    refine T_p2 hv2 1 (by decide) rfl rfl fl_X0_17 (by decide) rfl rfl dX0_restore_19 ?_
    refine T_aload_n dX0_restore_22 rfl rfl ?_
    refine T_dup dX0_restore_23 rfl ?_
    refine T_g2 (v := .int (nI kn)) hv2 2 (by decide) fl_X0_21 (congrArg (fun z => some (Value.int z)) hk) dX0_restore_24 ?_
    refine T_iconst (v := nI 1) dX0_restore_27 rfl ?_
    refine T_isub dX0_restore_28 ?_
    rw [pk_sub (by omega)]
    refine T_p2 hv2 2 (by decide) rfl rfl fl_X0_21 (by decide) rfl rfl dX0_restore_29 ?_
    refine T_aload_n dX0_restore_32 rfl rfl ?_
    refine T_aload_n dX0_restore_33 rfl rfl ?_
    refine T_g2 hv2 0 (by decide) fl_X0_11 rfl dX0_restore_34 ?_
    refine T_aload_n dX0_restore_37 rfl rfl ?_
    refine T_g2 (v := .int (nI (prv nx))) hv2 1 (by decide) fl_X0_17 rfl dX0_restore_38 ?_
    refine T_aald rfl (hv2 1 (by decide)) rfl (Nat.le_of_ble_eq_true rfl) (prv nx) hp8 rfl rfl dX0_restore_41 ?_
    refine T_vv (Rc_of (hv1 0 (by decide)) rfl rfl) (k_takeU (show ¬ 2 + prv nx = 0 by omega) hv1 hvn) ml_X0_25 im_yX1_takeFrom se_RX1_yX1_takeFrom ini_RX1 co_yX1_takeFrom rfl de_X1_takeFrom (by decide) (by decide) rfl (Nat.le_of_ble_eq_true rfl) dX0_restore_42 ?_
    refine T_vret rfl dX0_restore_45 ?_
    refine ⟨rfl, ?_⟩
    rw [setR_setR]
    rfl
  refine T_aload_n dX0_restore_0 rfl rfl ?_
  refine T_aload_n dX0_restore_1 rfl rfl ?_
  refine T_g2 (v := .int (nI nx)) hv2 1 (by decide) fl_X0_17 (congrArg (fun z => some (Value.int z)) hx) dX0_restore_2 ?_
  refine T_if_le 17 dX0_restore_5 (by decide) (fun h5 => ?_) (fun h5 => ?_)
  · refine T_bipush (v := nI 7) dX0_restore_17 (by decide) ?_
    first | (rw [show nI 7 = nI (prv nx) from congrArg nI (hp7 h5).symm]; exact hgo) | (rw [pk_sub (Nat.succ_le_of_lt (hpp h5)), show nx - 1 = prv nx from (hpq h5).symm]; exact hgo)
  · refine T_aload_n dX0_restore_8 rfl rfl ?_
    refine T_g2 (v := .int (nI nx)) hv2 1 (by decide) fl_X0_17 (congrArg (fun z => some (Value.int z)) hx) dX0_restore_9 ?_
    refine T_iconst (v := nI 1) dX0_restore_12 rfl ?_
    refine T_isub dX0_restore_13 ?_
    refine T_goto 19 dX0_restore_14 (by decide) ?_
    first | (rw [show nI 7 = nI (prv nx) from congrArg nI (hp7 h5).symm]; exact hgo) | (rw [pk_sub (Nat.succ_le_of_lt (hpp h5)), show nx - 1 = prv nx from (hpq h5).symm]; exact hgo)
end
section
/-! ===== the String constants' methods ===== -/
theorem sB_c {i j : Nat} (hi : i < 2) (hj : j < 6) : ((sB i j &&& nI 255).toUInt32 % 65536).toInt32 = sB i j ∧ narrow .char (.int (sB i j)) = .int (sB i j) := by
  rcases (show i = 0 ∨ i = 1 by omega) with rfl | rfl <;> rcases (show j = 0 ∨ j = 1 ∨ j = 2 ∨ j = 3 ∨ j = 4 ∨ j = 5 by omega) with rfl | rfl | rfl | rfl | rfl | rfl <;> exact ⟨by decide, by decide⟩

set_option maxHeartbeats 4000000 in
set_option maxRecDepth 100000 in
theorem k_J0_coder_7d493 {X : Cx} {l : Launch} {σ : Hp} {i : Nat} (hi : i < 2) : Con X l yJ0_coder_7d493 cJ0_coder_7d493 1 (some .byte) 0 [.ref (sA X i)] σ (Ex (some (.int (0))) σ) := by
  refine Con_of [some (.ref (sA X i))] (by decide) rfl (Nat.le_of_ble_eq_true rfl) ?_
  refine T_scmp fl_J0_38 dJ0_coder_7d493_0 ?_
  refine T_if_eq 13 dJ0_coder_7d493_3 (by decide) (fun h3 => (absurd h3 (by decide))) (fun h3 => ?_)
  refine T_aload_n dJ0_coder_7d493_6 rfl rfl ?_
  refine T_scod hi fl_J0_15 dJ0_coder_7d493_7 ?_
  refine T_goto 14 dJ0_coder_7d493_10 (by decide) ?_
  refine T_zret (ty := .byte) rfl (by decide) dJ0_coder_7d493_14 ?_
  exact ⟨rfl, rfl⟩
set_option maxHeartbeats 4000000 in
set_option maxRecDepth 100000 in
theorem k_J0_isLatin1_aae02 {X : Cx} {l : Launch} {σ : Hp} {i : Nat} (hi : i < 2) : Con X l yJ0_isLatin1_aae02 cJ0_isLatin1_aae02 1 (some .boolean) 0 [.ref (sA X i)] σ (Ex (some (.int (nI 1))) σ) := by
  refine Con_of [some (.ref (sA X i))] (by decide) rfl (Nat.le_of_ble_eq_true rfl) ?_
  refine T_scmp fl_J0_38 dJ0_isLatin1_aae02_0 ?_
  refine T_if_eq 17 dJ0_isLatin1_aae02_3 (by decide) (fun h3 => (absurd h3 (by decide))) (fun h3 => ?_)
  refine T_aload_n dJ0_isLatin1_aae02_6 rfl rfl ?_
  refine T_scod hi fl_J0_15 dJ0_isLatin1_aae02_7 ?_
  refine T_if_ne 17 dJ0_isLatin1_aae02_10 (by decide) (fun h10 => (absurd rfl h10)) (fun h10 => ?_)
  refine T_iconst (v := nI 1) dJ0_isLatin1_aae02_13 rfl ?_
  refine T_goto 18 dJ0_isLatin1_aae02_14 (by decide) ?_
  refine T_zret (ty := .boolean) rfl (by decide) dJ0_isLatin1_aae02_18 ?_
  exact ⟨rfl, rfl⟩
set_option maxHeartbeats 4000000 in
set_option maxRecDepth 100000 in
theorem k_J0_length_8abf5 {X : Cx} {l : Launch} {σ : Hp} {i : Nat} (hi : i < 2) : Con X l yJ0_length_8abf5 cJ0_length_8abf5 1 (some .int) 1 [.ref (sA X i)] σ (Ex (some (.int (nI 6))) σ) := by
  refine Con_of [some (.ref (sA X i))] (by decide) rfl (Nat.le_of_ble_eq_true rfl) ?_
  refine T_aload_n dJ0_length_8abf5_0 rfl rfl ?_
  refine T_sval hi fl_J0_9 dJ0_length_8abf5_1 ?_
  refine T_slen hi dJ0_length_8abf5_4 ?_
  refine T_aload_n dJ0_length_8abf5_5 rfl rfl ?_
  refine T_vi (Rc_str hi) (k_J0_coder_7d493 hi) ml_J0_335 im_yJ0_coder_7d493 se_RJ0_yJ0_coder_7d493 ini_RJ0 co_yJ0_coder_7d493 rfl de_J0_coder_7d493 (by decide) (by decide) rfl (Nat.le_of_ble_eq_true rfl) dJ0_length_8abf5_6 ?_
  refine T_ishr dJ0_length_8abf5_9 ?_
  refine T_iret rfl dJ0_length_8abf5_10 ?_
  exact ⟨by decide, rfl⟩
set_option maxHeartbeats 4000000 in
set_option maxRecDepth 100000 in
theorem k_J3_checkIndex_8e157 {X : Cx} {l : Launch} {σ : Hp} {j n : Nat} {v : Value} (hv : v.category = 1) (hj : j < n) (hn : n < 1000) : Con X l yJ3_checkIndex_8e157 cJ3_checkIndex_8e157 3 (some .int) 0 [.int (nI j), .int (nI n), v] σ (Ex (some (.int (nI j))) σ) := by
  refine Con_of [some (.int (nI j)), some (.int (nI n)), some v] (by decide) rfl (by simp only [lg_sl, List.flatMap_cons, List.flatMap_nil, hv]; exact Nat.le_of_ble_eq_true rfl) ?_
  refine T_iload_n dJ3_checkIndex_8e157_0 rfl rfl ?_
  refine T_if_lt 9 dJ3_checkIndex_8e157_1 (by decide) (fun h1 => (absurd h1 (nI_pos (by omega)))) (fun h1 => ?_)
  refine T_iload_n dJ3_checkIndex_8e157_4 rfl rfl ?_
  refine T_iload_n dJ3_checkIndex_8e157_5 rfl rfl ?_
  refine T_icmp_lt 16 dJ3_checkIndex_8e157_6 (by decide) (fun h6 => ?_) (fun h6 => (absurd (nI_lt hj (by omega)) h6))
  refine T_iload_n dJ3_checkIndex_8e157_16 rfl rfl ?_
  refine T_iret rfl dJ3_checkIndex_8e157_17 ?_
  exact ⟨rfl, rfl⟩
set_option maxHeartbeats 4000000 in
set_option maxRecDepth 100000 in
theorem k_J0_checkIndex_df160 {X : Cx} {l : Launch} {σ : Hp} {j n : Nat} (hj : j < n) (hn : n < 1000) : Con X l yJ0_checkIndex_df160 cJ0_checkIndex_df160 2 none 1 [.int (nI j), .int (nI n)] σ (Ex none σ) := by
  refine Con_of [some (.int (nI j)), some (.int (nI n))] (by decide) rfl (Nat.le_of_ble_eq_true rfl) ?_
  refine T_iload_n dJ0_checkIndex_df160_0 rfl rfl ?_
  refine T_iload_n dJ0_checkIndex_df160_1 rfl rfl ?_
  refine T_sfmt fl_J0_1053 dJ0_checkIndex_df160_2 (fun v hv => ?_)
  refine T_si (k_J3_checkIndex_8e157 hv hj hn) ml_J0_1059 sm_yJ3_checkIndex_8e157 ini_RJ3 co_yJ3_checkIndex_8e157 de_J3_checkIndex_8e157 (by decide) (by decide) rfl (Nat.le_of_ble_eq_true rfl) dJ0_checkIndex_df160_5 ?_
  refine T_pop dJ0_checkIndex_df160_8 rfl ?_
  refine T_vret rfl dJ0_checkIndex_df160_9 ?_
  exact ⟨rfl, rfl⟩
set_option maxHeartbeats 4000000 in
set_option maxRecDepth 100000 in
theorem k_J1_charAt_3b067 {X : Cx} {l : Launch} {σ : Hp} {i j : Nat} (hi : i < 2) (hj : j < 6) : Con X l yJ1_charAt_3b067 cJ1_charAt_3b067 2 (some .char) 2 [.ref (sV X i), .int (nI j)] σ (Ex (some (.int (sB i j))) σ) := by
  refine Con_of [some (.ref (sV X i)), some (.int (nI j))] (by decide) rfl (Nat.le_of_ble_eq_true rfl) ?_
  refine T_iload_n dJ1_charAt_3b067_0 rfl rfl ?_
  refine T_aload_n dJ1_charAt_3b067_1 rfl rfl ?_
  refine T_slen hi dJ1_charAt_3b067_2 ?_
  refine T_sv (k_J0_checkIndex_df160 hj (by decide)) ml_J1_9 sm_yJ0_checkIndex_df160 ini_RJ0 co_yJ0_checkIndex_df160 de_J0_checkIndex_df160 (by decide) (by decide) rfl (Nat.le_of_ble_eq_true rfl) dJ1_charAt_3b067_3 ?_
  refine T_aload_n dJ1_charAt_3b067_6 rfl rfl ?_
  refine T_iload_n dJ1_charAt_3b067_7 rfl rfl ?_
  refine T_sbal hi hj dJ1_charAt_3b067_8 ?_
  refine T_sipush (v := nI 255) dJ1_charAt_3b067_9 (by decide) ?_
  refine T_iand dJ1_charAt_3b067_12 ?_
  refine T_i2c dJ1_charAt_3b067_13 (sB_c hi hj).1 ?_
  exact T_zret (ty := .char) rfl (sB_c hi hj).2 dJ1_charAt_3b067_14 ⟨rfl, rfl⟩
set_option maxHeartbeats 4000000 in
set_option maxRecDepth 100000 in
theorem k_J0_charAt_5068e {X : Cx} {l : Launch} {σ : Hp} {i j : Nat} (hi : i < 2) (hj : j < 6) : Con X l yJ0_charAt_5068e cJ0_charAt_5068e 2 (some .char) 3 [.ref (sA X i), .int (nI j)] σ (Ex (some (.int (sB i j))) σ) := by
  refine Con_of [some (.ref (sA X i)), some (.int (nI j))] (by decide) rfl (Nat.le_of_ble_eq_true rfl) ?_
  refine T_aload_n dJ0_charAt_5068e_0 rfl rfl ?_
  refine T_vi (Rc_str hi) (k_J0_isLatin1_aae02 hi) ml_J0_492 im_yJ0_isLatin1_aae02 se_RJ0_yJ0_isLatin1_aae02 ini_RJ0 co_yJ0_isLatin1_aae02 rfl de_J0_isLatin1_aae02 (by decide) (by decide) rfl (Nat.le_of_ble_eq_true rfl) dJ0_charAt_5068e_1 ?_
  refine T_if_eq 16 dJ0_charAt_5068e_4 (by decide) (fun h4 => (absurd h4 (by decide))) (fun h4 => ?_)
  refine T_aload_n dJ0_charAt_5068e_7 rfl rfl ?_
  refine T_sval hi fl_J0_9 dJ0_charAt_5068e_8 ?_
  refine T_iload_n dJ0_charAt_5068e_11 rfl rfl ?_
  refine T_si (k_J1_charAt_3b067 hi hj) ml_J0_495 sm_yJ1_charAt_3b067 ini_RJ1 co_yJ1_charAt_3b067 de_J1_charAt_3b067 (by decide) (by decide) rfl (Nat.le_of_ble_eq_true rfl) dJ0_charAt_5068e_12 ?_
  exact T_zret (ty := .char) rfl (sB_c hi hj).2 dJ0_charAt_5068e_15 ⟨rfl, rfl⟩
end
section
/-! ===== the text ===== -/
abbrev isL (x : Int32) : Prop := ¬ x < nI 97 ∧ ¬ nI 122 < x
abbrev isF (x : Int32) : Prop := ¬ x < nI 48 ∧ ¬ nI 57 < x
/-- the place behind a row of small letters, of figures, that begins ahead of or at e -/
def runL (g : Nat → Int32) : Nat → Nat → Nat
  | 0, e => e
  | n + 1, e => if isL (g e) then runL g n (e + 1) else e
def runF (g : Nat → Int32) : Nat → Nat → Nat
  | 0, e => e
  | n + 1, e => if isF (g e) then runF g n (e + 1) else e
def valF (g : Nat → Int32) (s : Nat) : Nat → Int32
  | 0 => nI 0
  | n + 1 => valF g s n * nI 10 + (g (s + n) - nI 48)
/-- constant i stands from s to e -/
def wIs (i : Nat) (g : Nat → Int32) (s e : Nat) : Prop := s + 6 = e ∧ ∀ j, j < 6 → sB i j = g (s + j)
theorem runL_le (g : Nat → Int32) : ∀ n e, e ≤ runL g n e ∧ runL g n e ≤ e + n
  | 0, e => ⟨Nat.le_refl _, Nat.le_refl _⟩
  | n + 1, e => by
    rw [runL]
    split
    · have := runL_le g n (e + 1); omega
    · omega
theorem runF_le (g : Nat → Int32) : ∀ n e, e ≤ runF g n e ∧ runF g n e ≤ e + n
  | 0, e => ⟨Nat.le_refl _, Nat.le_refl _⟩
  | n + 1, e => by
    rw [runF]
    split
    · have := runF_le g n (e + 1); omega
    · omega
/-- the kind of the token at s, its end -/
noncomputable def tkE (g : Nat → Int32) (len s : Nat) : Nat := if isL (g s) then runL g (len - s) s else if isF (g s) then runF g (len - s) s else s + 1
noncomputable def wK (g : Nat → Int32) (s e : Nat) : Int32 := @ite _ (wIs 0 g s e) (Classical.propDecidable _) (nI 1) (@ite _ (wIs 1 g s e) (Classical.propDecidable _) (nI 2) (nI 5))
def fK (g : Nat → Int32) (s e : Nat) : Int32 := if 2 < e - s ∨ (1 < e - s ∧ g s = nI 48) then nI 5 else nI 3
noncomputable def tkK (g : Nat → Int32) (len s : Nat) : Int32 := if isL (g s) then wK g s (tkE g len s) else if isF (g s) then fK g s (tkE g len s) else if g s = nI 59 then nI 4 else nI 5
/-- the text with a token read into place f -/
noncomputable def tkU (t : Rg) (len f s : Nat) : Rg := if isL (t 1 s) then up2 t 2 f (tkK (t 1) len s) else if isF (t 1 s) then up2 (up2 t 2 f (tkK (t 1) len s)) 4 f (valF (t 1) s (tkE (t 1) len s - s)) else up2 t 2 f (tkK (t 1) len s)
/-- all tokens from p on, the first into place f: the text, how many places are taken -/
noncomputable def ftS (len : Nat) : Nat → Rg → Nat → Nat → Rg × Nat
  | 0, t, f, _ => (t, f)
  | n + 1, t, f, p => if p < len then (if t 1 p = nI 32 then ftS len n t f (p + 1) else ftS len n (tkU (up2 t 3 f (nI p)) len f p) (f + 1) (tkE (t 1) len p)) else (t, f)
noncomputable def finS (t : Rg) (len : Nat) : Rg := up2 (up2 (ftS len (len + 1) t 0 0).1 2 (ftS len (len + 1) t 0 0).2 (nI 0)) 3 (ftS len (len + 1) t 0 0).2 (nI len)
def tk (t : Rg) (n : Nat) : Rg := up2 t 0 5 (nI n)
theorem upd_upd (f : Nat → Int32) (j : Nat) (a b : Int32) : upd (upd f j a) j b = upd f j b := by
  funext i
  unfold upd
  split <;> rfl
theorem tk_tk (t : Rg) (n : Nat) (x : Int32) : up2 (tk t n) 0 5 x = up2 t 0 5 x := by
  funext k
  unfold tk
  by_cases h : k = 0
  · subst h; rw [up2_same, up2_same, up2_same, upd_upd]
  · rw [up2_ne h, up2_ne h, up2_ne h]

theorem nan1 {A B : Prop} (h : A) : ¬ (¬ A ∧ B) := fun q => q.1 h
theorem nan2 {A B : Prop} (h : B) : ¬ (A ∧ ¬ B) := fun q => q.2 h
set_option maxHeartbeats 4000000 in
set_option maxRecDepth 100000 in
theorem k_X2_isSmallLetter {X : Cx} {l : Launch} {σ : Hp} {x : Int32} : Con X l yX2_isSmallLetter cX2_isSmallLetter 1 (some .boolean) 0 [.int x] σ (Ex (some (.int (if isL x then nI 1 else nI 0))) σ) := by
  refine Con_of [some (.int x)] (by decide) rfl (Nat.le_of_ble_eq_true rfl) ?_
  refine T_iload_n dX2_isSmallLetter_0 rfl rfl ?_
  refine T_bipush (v := nI 97) dX2_isSmallLetter_1 (by decide) ?_
  refine T_icmp_lt 16 dX2_isSmallLetter_3 (by decide) (fun h3 => ?_) (fun h3 => ?_)
  · refine T_iconst (v := nI 0) dX2_isSmallLetter_16 rfl ?_
    refine T_zret (ty := .boolean) rfl (by decide) dX2_isSmallLetter_17 ?_
    first | (refine ⟨?_, rfl⟩; rw [if_neg (nan1 h3)]) | (refine ⟨?_, rfl⟩; rw [if_neg (nan2 h9)]) | (refine ⟨?_, rfl⟩; rw [if_pos (And.intro h3 h9)])
  · refine T_iload_n dX2_isSmallLetter_6 rfl rfl ?_
    refine T_bipush (v := nI 122) dX2_isSmallLetter_7 (by decide) ?_
    refine T_icmp_gt 16 dX2_isSmallLetter_9 (by decide) (fun h9 => ?_) (fun h9 => ?_)
    · refine T_iconst (v := nI 0) dX2_isSmallLetter_16 rfl ?_
      refine T_zret (ty := .boolean) rfl (by decide) dX2_isSmallLetter_17 ?_
      first | (refine ⟨?_, rfl⟩; rw [if_neg (nan1 h3)]) | (refine ⟨?_, rfl⟩; rw [if_neg (nan2 h9)]) | (refine ⟨?_, rfl⟩; rw [if_pos (And.intro h3 h9)])
    · refine T_iconst (v := nI 1) dX2_isSmallLetter_12 rfl ?_
      refine T_goto 17 dX2_isSmallLetter_13 (by decide) ?_
      refine T_zret (ty := .boolean) rfl (by decide) dX2_isSmallLetter_17 ?_
      first | (refine ⟨?_, rfl⟩; rw [if_neg (nan1 h3)]) | (refine ⟨?_, rfl⟩; rw [if_neg (nan2 h9)]) | (refine ⟨?_, rfl⟩; rw [if_pos (And.intro h3 h9)])
set_option maxHeartbeats 4000000 in
set_option maxRecDepth 100000 in
theorem k_X2_isFigure {X : Cx} {l : Launch} {σ : Hp} {x : Int32} : Con X l yX2_isFigure cX2_isFigure 1 (some .boolean) 0 [.int x] σ (Ex (some (.int (if isF x then nI 1 else nI 0))) σ) := by
  refine Con_of [some (.int x)] (by decide) rfl (Nat.le_of_ble_eq_true rfl) ?_
  refine T_iload_n dX2_isFigure_0 rfl rfl ?_
  refine T_bipush (v := nI 48) dX2_isFigure_1 (by decide) ?_
  refine T_icmp_lt 16 dX2_isFigure_3 (by decide) (fun h3 => ?_) (fun h3 => ?_)
  · refine T_iconst (v := nI 0) dX2_isFigure_16 rfl ?_
    refine T_zret (ty := .boolean) rfl (by decide) dX2_isFigure_17 ?_
    first | (refine ⟨?_, rfl⟩; rw [if_neg (nan1 h3)]) | (refine ⟨?_, rfl⟩; rw [if_neg (nan2 h9)]) | (refine ⟨?_, rfl⟩; rw [if_pos (And.intro h3 h9)])
  · refine T_iload_n dX2_isFigure_6 rfl rfl ?_
    refine T_bipush (v := nI 57) dX2_isFigure_7 (by decide) ?_
    refine T_icmp_gt 16 dX2_isFigure_9 (by decide) (fun h9 => ?_) (fun h9 => ?_)
    · refine T_iconst (v := nI 0) dX2_isFigure_16 rfl ?_
      refine T_zret (ty := .boolean) rfl (by decide) dX2_isFigure_17 ?_
      first | (refine ⟨?_, rfl⟩; rw [if_neg (nan1 h3)]) | (refine ⟨?_, rfl⟩; rw [if_neg (nan2 h9)]) | (refine ⟨?_, rfl⟩; rw [if_pos (And.intro h3 h9)])
    · refine T_iconst (v := nI 1) dX2_isFigure_12 rfl ?_
      refine T_goto 17 dX2_isFigure_13 (by decide) ?_
      refine T_zret (ty := .boolean) rfl (by decide) dX2_isFigure_17 ?_
      first | (refine ⟨?_, rfl⟩; rw [if_neg (nan1 h3)]) | (refine ⟨?_, rfl⟩; rw [if_neg (nan2 h9)]) | (refine ⟨?_, rfl⟩; rw [if_pos (And.intro h3 h9)])
set_option maxHeartbeats 4000000 in
set_option maxRecDepth 100000 in
theorem k_X2_add {X : Cx} {l : Launch} {σ0 : Hp} {t : Rg} {len : Nat} {x : Int32} (hv3 : Lv X 3 0) (hl : t 0 1 = nI len) (hl8 : len < 80) : Con X l yX2_add cX2_add 2 none 0 [.ref (adr X 3 0 0), .int x] (setR σ0 3 0 t) (Ex none (setR σ0 3 0 (up2 (up2 t 1 len (vp_nar .char x)) 0 1 (t 0 1 + nI 1)))) := by
  refine Con_of [some (.ref (adr X 3 0 0)), some (.int x)] (by decide) rfl (Nat.le_of_ble_eq_true rfl) ?_
  refine T_aload_n dX2_add_0 rfl rfl ?_
  refine T_g3F hv3 0 (by decide) fl_X2_9 rfl dX2_add_1 ?_
  refine T_aload_n dX2_add_4 rfl rfl ?_
  refine T_g3F hv3 1 (by decide) fl_X2_15 rfl dX2_add_5 ?_
  refine T_iload_n dX2_add_8 rfl rfl ?_
  refine T_castF (hv3 _ (by decide)) (fun _ => rfl) (Nat.le_of_ble_eq_true rfl) (len) (hl8) (hl) dX2_add_9 ?_
  refine T_aload_n dX2_add_10 rfl rfl ?_
  refine T_dup dX2_add_11 rfl ?_
  refine T_g3F hv3 1 (by decide) fl_X2_15 rfl dX2_add_12 ?_
  refine T_iconst (v := nI 1) dX2_add_15 rfl ?_
  refine T_iadd dX2_add_16 ?_
  refine T_p3F hv3 1 (by decide) rfl rfl fl_X2_15 (by decide) rfl dX2_add_17 ?_
  refine T_vret rfl dX2_add_20 ?_
  exact ⟨rfl, rfl⟩
set_option maxHeartbeats 4000000 in
set_option maxRecDepth 100000 in
theorem k_X2_drop {X : Cx} {l : Launch} {σ0 : Hp} {t : Rg} (hv3 : Lv X 3 0) : Con X l yX2_drop cX2_drop 2 (some .int) 0 [.ref (adr X 3 0 0)] (setR σ0 3 0 t) (Ex (some (.int (t 0 1))) (setR σ0 3 0 (up2 t 0 1 (nI 0)))) := by
  refine Con_of [some (.ref (adr X 3 0 0)), none] (by decide) rfl (Nat.le_of_ble_eq_true rfl) ?_
  refine T_aload_n dX2_drop_0 rfl rfl ?_
  refine T_g3F hv3 1 (by decide) fl_X2_15 rfl dX2_drop_1 ?_
  refine T_istore1 dX2_drop_4 rfl (by decide) ?_
  refine T_aload_n dX2_drop_5 rfl rfl ?_
  refine T_iconst (v := nI 0) dX2_drop_6 rfl ?_
  refine T_p3F hv3 1 (by decide) rfl rfl fl_X2_15 (by decide) rfl dX2_drop_7 ?_
  refine T_iload_n dX2_drop_10 rfl rfl ?_
  refine T_iret rfl dX2_drop_11 ?_
  exact ⟨rfl, rfl⟩
set_option maxHeartbeats 4000000 in
set_option maxRecDepth 100000 in
theorem k_X2_passKind {X : Cx} {l : Launch} {σ0 : Hp} {t : Rg} {n : Nat} {k : Int32} (hv3 : Lv X 3 0) (hn : n < 81) : Con X l yX2_passKind cX2_passKind 2 (some .boolean) 0 [.ref (adr X 3 0 0), .int k] (setR σ0 3 0 (tk t n)) (Ex (some (.int (if t 2 n = k then nI 1 else nI 0))) (setR σ0 3 0 (tk t (if t 2 n = k then n + 1 else n)))) := by
  refine Con_of [some (.ref (adr X 3 0 0)), some (.int k)] (by decide) rfl (Nat.le_of_ble_eq_true rfl) ?_
  refine T_aload_n dX2_passKind_0 rfl rfl ?_
  refine T_g3F hv3 2 (by decide) fl_X2_19 rfl dX2_passKind_1 ?_
  refine T_aload_n dX2_passKind_4 rfl rfl ?_
  refine T_g3F hv3 5 (by decide) fl_X2_29 rfl dX2_passKind_5 ?_
  refine T_ialdF (hv3 _ (by decide)) rfl (Nat.le_of_ble_eq_true rfl) (n) (hn) (rfl) dX2_passKind_8 ?_
  refine T_iload_n dX2_passKind_9 rfl rfl ?_
  refine T_icmp_eq 15 dX2_passKind_10 (by decide) (fun h10 => ?_) (fun h10 => ?_)
  · have h10 : t 2 n = k := h10
    refine T_aload_n dX2_passKind_15 rfl rfl ?_
    refine T_dup dX2_passKind_16 rfl ?_
    refine T_g3F hv3 5 (by decide) fl_X2_29 rfl dX2_passKind_17 ?_
    refine T_iconst (v := nI 1) dX2_passKind_20 rfl ?_
    refine T_iaddN (a := n) dX2_passKind_21 ?_
    refine T_p3F hv3 5 (by decide) rfl rfl fl_X2_29 (by decide) rfl dX2_passKind_22 ?_
    refine T_iconst (v := nI 1) dX2_passKind_25 rfl ?_
    refine T_zret (ty := .boolean) rfl (by decide) dX2_passKind_26 ?_
    exact ⟨by rw [if_pos h10], by rw [if_pos h10, tk_tk]; rfl⟩
  · have h10 : ¬ t 2 n = k := h10
    refine T_iconst (v := nI 0) dX2_passKind_13 rfl ?_
    refine T_zret (ty := .boolean) rfl (by decide) dX2_passKind_14 ?_
    exact ⟨by rw [if_neg h10], by rw [if_neg h10]⟩
abbrev pN (t : Rg) (n : Nat) (lo hi : Int32) : Prop := t 2 n = nI 3 ∧ ¬ t 4 n < lo ∧ t 4 n ≤ hi
theorem bn2 {A B C : Prop} (h : B) : ¬ (A ∧ ¬ B ∧ C) := fun q => q.2.1 h
set_option maxHeartbeats 4000000 in
set_option maxRecDepth 100000 in
theorem k_X2_passNumber {X : Cx} {l : Launch} {σ0 : Hp} {t : Rg} {n : Nat} {lo hi : Int32} (hv3 : Lv X 3 0) (hn : n < 81) : Con X l yX2_passNumber cX2_passNumber 3 (some .boolean) 0 [.ref (adr X 3 0 0), .int lo, .int hi] (setR σ0 3 0 (tk t n)) (Ex (some (.int (if pN t n lo hi then nI 1 else nI 0))) (setR σ0 3 0 (tk t (if pN t n lo hi then n + 1 else n)))) := by
  refine Con_of [some (.ref (adr X 3 0 0)), some (.int lo), some (.int hi)] (by decide) rfl (Nat.le_of_ble_eq_true rfl) ?_
  have g1 : ¬ tk t n 2 n = nI 3 → ¬ pN t n lo hi := fun h q => h q.1
  have g2 : tk t n 4 n < lo → ¬ pN t n lo hi := fun h q => q.2.1 h
  have g3 : ¬ tk t n 4 n ≤ hi → ¬ pN t n lo hi := fun h q => h q.2.2
  have g4 : tk t n 2 n = nI 3 → ¬ tk t n 4 n < lo → tk t n 4 n ≤ hi → pN t n lo hi := fun a b c => ⟨a, b, c⟩
  refine T_aload_n dX2_passNumber_0 rfl rfl ?_
  refine T_g3F hv3 2 (by decide) fl_X2_19 rfl dX2_passNumber_1 ?_
  refine T_aload_n dX2_passNumber_4 rfl rfl ?_
  refine T_g3F hv3 5 (by decide) fl_X2_29 rfl dX2_passNumber_5 ?_
  refine T_ialdF (hv3 _ (by decide)) rfl (Nat.le_of_ble_eq_true rfl) (n) (hn) (rfl) dX2_passNumber_8 ?_
  refine T_iconst (v := nI 3) dX2_passNumber_9 rfl ?_
  refine T_icmp_ne 39 dX2_passNumber_10 (by decide) (fun h10 => ?_) (fun h10 => ?_)
  · refine T_iconst (v := nI 0) dX2_passNumber_39 rfl ?_
    refine T_zret (ty := .boolean) rfl (by decide) dX2_passNumber_40 ?_
    first | (refine ⟨?_, ?_⟩ <;> rw [if_neg (g1 h10)]) | (refine ⟨?_, ?_⟩ <;> rw [if_neg (g2 h23)]) | (refine ⟨?_, ?_⟩ <;> rw [if_neg (g3 h36)])
  · refine T_aload_n dX2_passNumber_13 rfl rfl ?_
    refine T_g3F hv3 4 (by decide) fl_X2_26 rfl dX2_passNumber_14 ?_
    refine T_aload_n dX2_passNumber_17 rfl rfl ?_
    refine T_g3F hv3 5 (by decide) fl_X2_29 rfl dX2_passNumber_18 ?_
    refine T_ialdF (hv3 _ (by decide)) rfl (Nat.le_of_ble_eq_true rfl) (n) (hn) (rfl) dX2_passNumber_21 ?_
    refine T_iload_n dX2_passNumber_22 rfl rfl ?_
    refine T_icmp_lt 39 dX2_passNumber_23 (by decide) (fun h23 => ?_) (fun h23 => ?_)
    · refine T_iconst (v := nI 0) dX2_passNumber_39 rfl ?_
      refine T_zret (ty := .boolean) rfl (by decide) dX2_passNumber_40 ?_
      first | (refine ⟨?_, ?_⟩ <;> rw [if_neg (g1 h10)]) | (refine ⟨?_, ?_⟩ <;> rw [if_neg (g2 h23)]) | (refine ⟨?_, ?_⟩ <;> rw [if_neg (g3 h36)])
    · refine T_aload_n dX2_passNumber_26 rfl rfl ?_
      refine T_g3F hv3 4 (by decide) fl_X2_26 rfl dX2_passNumber_27 ?_
      refine T_aload_n dX2_passNumber_30 rfl rfl ?_
      refine T_g3F hv3 5 (by decide) fl_X2_29 rfl dX2_passNumber_31 ?_
      refine T_ialdF (hv3 _ (by decide)) rfl (Nat.le_of_ble_eq_true rfl) (n) (hn) (rfl) dX2_passNumber_34 ?_
      refine T_iload_n dX2_passNumber_35 rfl rfl ?_
      refine T_icmp_le 41 dX2_passNumber_36 (by decide) (fun h36 => ?_) (fun h36 => ?_)
      · refine T_aload_n dX2_passNumber_41 rfl rfl ?_
        refine T_dup dX2_passNumber_42 rfl ?_
        refine T_g3F hv3 5 (by decide) fl_X2_29 rfl dX2_passNumber_43 ?_
        refine T_iconst (v := nI 1) dX2_passNumber_46 rfl ?_
        refine T_iaddN (a := n) dX2_passNumber_47 ?_
        refine T_p3F hv3 5 (by decide) rfl rfl fl_X2_29 (by decide) rfl dX2_passNumber_48 ?_
        refine T_iconst (v := nI 1) dX2_passNumber_51 rfl ?_
        refine T_zret (ty := .boolean) rfl (by decide) dX2_passNumber_52 ?_
        have g := g4 h10 h23 h36
        exact ⟨by rw [if_pos g], by rw [if_pos g, tk_tk]; rfl⟩
      · refine T_iconst (v := nI 0) dX2_passNumber_39 rfl ?_
        refine T_zret (ty := .boolean) rfl (by decide) dX2_passNumber_40 ?_
        first | (refine ⟨?_, ?_⟩ <;> rw [if_neg (g1 h10)]) | (refine ⟨?_, ?_⟩ <;> rw [if_neg (g2 h23)]) | (refine ⟨?_, ?_⟩ <;> rw [if_neg (g3 h36)])
set_option maxHeartbeats 4000000 in
set_option maxRecDepth 100000 in
theorem k_X2_spells {X : Cx} {l : Launch} {σ0 : Hp} {t : Rg} {i s e : Nat} (hv3 : Lv X 3 0) (hi : i < 2) (hse : s ≤ e) (he : e ≤ 80) : Con X l yX2_spells cX2_spells 5 (some .boolean) 4 [.ref (adr X 3 0 0), .ref (sA X i), .int (nI s), .int (nI e)] (setR σ0 3 0 t) (Ex (some (.int (@ite _ (wIs i (t 1) s e) (Classical.propDecidable _) (nI 1) (nI 0)))) (setR σ0 3 0 t)) := by
  refine Con_of [some (.ref (adr X 3 0 0)), some (.ref (sA X i)), some (.int (nI s)), some (.int (nI e)), none] (by decide) rfl (Nat.le_of_ble_eq_true rfl) ?_
  have hpos : wIs i (t 1) s e → (@ite _ (wIs i (t 1) s e) (Classical.propDecidable _) (nI 1) (nI 0)) = nI 1 := fun h => if_pos h
  have hneg : ¬ wIs i (t 1) s e → (@ite _ (wIs i (t 1) s e) (Classical.propDecidable _) (nI 1) (nI 0)) = nI 0 := fun h => if_neg h
  have hlp : s + 6 = e → ∀ n k : Nat, k + n = 6 → (∀ j, j < k → sB i j = t 1 (s + j)) → T X l yX2_spells cX2_spells 5 (some .boolean) 4 15 [some (.ref (adr X 3 0 0)), some (.ref (sA X i)), some (.int (nI s)), some (.int (nI e)), some (.int (nI k))] [] (setR σ0 3 0 t) (Ex (some (.int (@ite _ (wIs i (t 1) s e) (Classical.propDecidable _) (nI 1) (nI 0)))) (setR σ0 3 0 t)) := by
    intro hse n
    induction n with
    | zero =>
      intro k hk hall
      have hk : k = 6 := by omega
      subst hk
      refine T_iload dX2_spells_15 rfl ?_
      refine T_aload_n dX2_spells_17 rfl rfl ?_
      refine T_vi (Rc_str hi) (k_J0_length_8abf5 hi) ml_X2_93 im_yJ0_length_8abf5 se_RJ0_yJ0_length_8abf5 ini_RJ0 co_yJ0_length_8abf5 rfl de_J0_length_8abf5 (by decide) (by decide) rfl (Nat.le_of_ble_eq_true rfl) dX2_spells_18 ?_
      refine T_icmp_ge 50 dX2_spells_21 (by decide) (fun h21 => ?_) (fun h21 => (absurd (nI_le (Nat.le_refl _) (by omega)) h21))
      refine T_iconst (v := nI 1) dX2_spells_50 rfl ?_
      refine T_zret (ty := .boolean) rfl (by decide) dX2_spells_51 ?_
      exact ⟨by rw [hpos ⟨hse, hall⟩], rfl⟩
    | succ n ih =>
      intro k hk hall
      have hk : k < 6 := by omega
      refine T_iload dX2_spells_15 rfl ?_
      refine T_aload_n dX2_spells_17 rfl rfl ?_
      refine T_vi (Rc_str hi) (k_J0_length_8abf5 hi) ml_X2_93 im_yJ0_length_8abf5 se_RJ0_yJ0_length_8abf5 ini_RJ0 co_yJ0_length_8abf5 rfl de_J0_length_8abf5 (by decide) (by decide) rfl (Nat.le_of_ble_eq_true rfl) dX2_spells_18 ?_
      refine T_icmp_ge 50 dX2_spells_21 (by decide) (fun h21 => (absurd h21 (nI_ge hk (by omega)))) (fun h21 => ?_)
      refine T_aload_n dX2_spells_24 rfl rfl ?_
      refine T_iload dX2_spells_25 rfl ?_
      refine T_vi (Rc_str hi) (k_J0_charAt_5068e hi (by omega)) ml_X2_98 im_yJ0_charAt_5068e se_RJ0_yJ0_charAt_5068e ini_RJ0 co_yJ0_charAt_5068e rfl de_J0_charAt_5068e (by decide) (by decide) rfl (Nat.le_of_ble_eq_true rfl) dX2_spells_27 ?_
      refine T_aload_n dX2_spells_30 rfl rfl ?_
      refine T_g3F hv3 0 (by decide) fl_X2_9 rfl dX2_spells_31 ?_
      refine T_iload_n dX2_spells_34 rfl rfl ?_
      refine T_iload dX2_spells_35 rfl ?_
      first | refine T_iaddN dX2_spells_37 ?_ | refine T_iadd dX2_spells_37 ?_
      refine T_caldF (hv3 _ (by decide)) rfl (Nat.le_of_ble_eq_true rfl) _ (by omega) rfl dX2_spells_38 ?_
      refine T_icmp_eq 44 dX2_spells_39 (by decide) (fun h39 => ?_) (fun h39 => ?_)
      · first | refine T_iincN4 dX2_spells_44 rfl (by decide) ?_ | refine T_iinc4 dX2_spells_44 rfl rfl (by decide) ?_
        refine T_goto 15 dX2_spells_47 (by decide) ?_
        exact ih (k + 1) (by omega) (fun j hj => by
          rcases (show j < k ∨ j = k by omega) with h | h
          · exact hall j h
          · rw [h]; exact h39)
      · refine T_iconst (v := nI 0) dX2_spells_42 rfl ?_
        refine T_zret (ty := .boolean) rfl (by decide) dX2_spells_43 ?_
        exact ⟨by rw [hneg (fun q => h39 (q.2 k hk))], rfl⟩
  refine T_aload_n dX2_spells_0 rfl rfl ?_
  refine T_vi (Rc_str hi) (k_J0_length_8abf5 hi) ml_X2_93 im_yJ0_length_8abf5 se_RJ0_yJ0_length_8abf5 ini_RJ0 co_yJ0_length_8abf5 rfl de_J0_length_8abf5 (by decide) (by decide) rfl (Nat.le_of_ble_eq_true rfl) dX2_spells_1 ?_
  refine T_iload_n dX2_spells_4 rfl rfl ?_
  refine T_iload_n dX2_spells_5 rfl rfl ?_
  refine T_isub dX2_spells_6 ?_
  rw [pk_sub hse]
  refine T_icmp_eq 12 dX2_spells_7 (by decide) (fun h7 => ?_) (fun h7 => ?_)
  · refine T_iconst (v := nI 0) dX2_spells_12 rfl ?_
    refine T_istore4 dX2_spells_13 rfl (by decide) ?_
    have h7 := nIe h7 (by omega) (by omega)
    exact hlp (by omega) 6 0 (by omega) (fun j hj => absurd hj (Nat.not_lt_zero j))
  · refine T_iconst (v := nI 0) dX2_spells_10 rfl ?_
    refine T_zret (ty := .boolean) rfl (by decide) dX2_spells_11 ?_
    exact ⟨by rw [hneg (fun q => h7 (congrArg nI (by have := q.1; omega)))], rfl⟩
end
section
set_option maxHeartbeats 4000000 in
set_option maxRecDepth 100000 in
theorem k_X2_takeWord {X : Cx} {l : Launch} {σ0 : Hp} {t : Rg} {f s len : Nat} (hv3 : Lv X 3 0) (hl : t 0 1 = nI len) (hl8 : len ≤ 80) (hf : f < 81) (hs : s < len) : Con X l yX2_takeWord cX2_takeWord 4 (some .int) 5 [.ref (adr X 3 0 0), .int (nI f), .int (nI s)] (setR σ0 3 0 t) (Ex (some (.int (nI (runL (t 1) (len - s) s)))) (setR σ0 3 0 (up2 t 2 f (wK (t 1) s (runL (t 1) (len - s) s))))) := by
  refine Con_of [some (.ref (adr X 3 0 0)), some (.int (nI f)), some (.int (nI s)), none] (by decide) rfl (Nat.le_of_ble_eq_true rfl) ?_
  have hE := runL_le (t 1) (len - s) s
  have h28 : T X l yX2_takeWord cX2_takeWord 4 (some .int) 5 28 [some (.ref (adr X 3 0 0)), some (.int (nI f)), some (.int (nI s)), some (.int (nI (runL (t 1) (len - s) s)))] [] (setR σ0 3 0 t) (Ex (some (.int (nI (runL (t 1) (len - s) s)))) (setR σ0 3 0 (up2 t 2 f (wK (t 1) s (runL (t 1) (len - s) s))))) := by
    refine T_aload_n dX2_takeWord_28 rfl rfl ?_
    refine T_ldcS (fun _ h => h.2.2.2.2.1) dX2_takeWord_29 ?_
    refine T_iload_n dX2_takeWord_31 rfl rfl ?_
    refine T_iload_n dX2_takeWord_32 rfl rfl ?_
    refine T_vi (Rc_of (hv3 0 (by decide)) rfl rfl) (k_X2_spells (i := 0) hv3 (by decide) hE.1 (by omega)) ml_X2_87 im_yX2_spells se_RX2_yX2_spells ini_RX2 co_yX2_spells rfl de_X2_spells (by decide) (by decide) rfl (Nat.le_of_ble_eq_true rfl) dX2_takeWord_33 ?_
    refine T_if_eq 49 dX2_takeWord_36 (by decide) (fun h36 => ?_) (fun h36 => ?_)
    · refine T_aload_n dX2_takeWord_49 rfl rfl ?_
      refine T_g3F hv3 2 (by decide) fl_X2_19 rfl dX2_takeWord_50 ?_
      refine T_iload_n dX2_takeWord_53 rfl rfl ?_
      refine T_aload_n dX2_takeWord_54 rfl rfl ?_
      refine T_ldcS (fun _ h => h.2.2.2.2.2.1) dX2_takeWord_55 ?_
      refine T_iload_n dX2_takeWord_57 rfl rfl ?_
      refine T_iload_n dX2_takeWord_58 rfl rfl ?_
      refine T_vi (Rc_of (hv3 0 (by decide)) rfl rfl) (k_X2_spells (i := 1) hv3 (by decide) hE.1 (by omega)) ml_X2_87 im_yX2_spells se_RX2_yX2_spells ini_RX2 co_yX2_spells rfl de_X2_spells (by decide) (by decide) rfl (Nat.le_of_ble_eq_true rfl) dX2_takeWord_59 ?_
      refine T_if_eq 69 dX2_takeWord_62 (by decide) (fun h62 => ?_) (fun h62 => ?_)
      · refine T_iconst (v := nI 5) dX2_takeWord_69 rfl ?_
        refine T_iastF (hv3 _ (by decide)) (fun _ => rfl) (Nat.le_of_ble_eq_true rfl) _ (by omega) rfl dX2_takeWord_70 ?_
        refine T_iload_n dX2_takeWord_71 rfl rfl ?_
        refine T_iret rfl dX2_takeWord_72 ?_
        first | (refine ⟨rfl, ?_⟩; rw [wK, if_pos (b01_1 h36)]) | (refine ⟨rfl, ?_⟩; rw [wK, if_neg (b01_0 h36), if_pos (b01_1 h62)]) | (refine ⟨rfl, ?_⟩; rw [wK, if_neg (b01_0 h36), if_neg (b01_0 h62)])
      · refine T_iconst (v := nI 2) dX2_takeWord_65 rfl ?_
        refine T_goto 70 dX2_takeWord_66 (by decide) ?_
        refine T_iastF (hv3 _ (by decide)) (fun _ => rfl) (Nat.le_of_ble_eq_true rfl) _ (by omega) rfl dX2_takeWord_70 ?_
        refine T_iload_n dX2_takeWord_71 rfl rfl ?_
        refine T_iret rfl dX2_takeWord_72 ?_
        first | (refine ⟨rfl, ?_⟩; rw [wK, if_pos (b01_1 h36)]) | (refine ⟨rfl, ?_⟩; rw [wK, if_neg (b01_0 h36), if_pos (b01_1 h62)]) | (refine ⟨rfl, ?_⟩; rw [wK, if_neg (b01_0 h36), if_neg (b01_0 h62)])
    · refine T_aload_n dX2_takeWord_39 rfl rfl ?_
      refine T_g3F hv3 2 (by decide) fl_X2_19 rfl dX2_takeWord_40 ?_
      refine T_iload_n dX2_takeWord_43 rfl rfl ?_
      refine T_iconst (v := nI 1) dX2_takeWord_44 rfl ?_
      refine T_iastF (hv3 _ (by decide)) (fun _ => rfl) (Nat.le_of_ble_eq_true rfl) _ (by omega) rfl dX2_takeWord_45 ?_
      refine T_goto 71 dX2_takeWord_46 (by decide) ?_
      refine T_iload_n dX2_takeWord_71 rfl rfl ?_
      refine T_iret rfl dX2_takeWord_72 ?_
      first | (refine ⟨rfl, ?_⟩; rw [wK, if_pos (b01_1 h36)]) | (refine ⟨rfl, ?_⟩; rw [wK, if_neg (b01_0 h36), if_pos (b01_1 h62)]) | (refine ⟨rfl, ?_⟩; rw [wK, if_neg (b01_0 h36), if_neg (b01_0 h62)])
  have hlp : ∀ n e : Nat, e + n = len → s ≤ e → (runL (t 1) (len - s) s) = runL (t 1) n e → T X l yX2_takeWord cX2_takeWord 4 (some .int) 5 2 [some (.ref (adr X 3 0 0)), some (.int (nI f)), some (.int (nI s)), some (.int (nI e))] [] (setR σ0 3 0 t) (Ex (some (.int (nI (runL (t 1) (len - s) s)))) (setR σ0 3 0 (up2 t 2 f (wK (t 1) s (runL (t 1) (len - s) s))))) := by
    intro n
    induction n with
    | zero =>
      intro e he hse hr
      have he : e = len := by omega
      subst he
      rw [runL] at hr
      refine T_iload_n dX2_takeWord_2 rfl rfl ?_
      refine T_aload_n dX2_takeWord_3 rfl rfl ?_
      refine T_g3F hv3 1 (by decide) fl_X2_15 rfl dX2_takeWord_4 ?_
      refine T_icmp_ge 28 dX2_takeWord_7 (by decide) (fun h7 => ?_) (fun h7 => (absurd (by rw [hl]; exact nI_le (Nat.le_refl _) (by omega)) h7))
      rw [hr] at h28 ⊢
      exact h28
    | succ n ih =>
      intro e he hse hr
      rw [runL] at hr
      refine T_iload_n dX2_takeWord_2 rfl rfl ?_
      refine T_aload_n dX2_takeWord_3 rfl rfl ?_
      refine T_g3F hv3 1 (by decide) fl_X2_15 rfl dX2_takeWord_4 ?_
      refine T_icmp_ge 28 dX2_takeWord_7 (by decide) (fun h7 => (absurd (hl ▸ h7) (nI_ge (show e < len by omega) (by omega)))) (fun h7 => ?_)
      refine T_aload_n dX2_takeWord_10 rfl rfl ?_
      refine T_g3F hv3 0 (by decide) fl_X2_9 rfl dX2_takeWord_11 ?_
      refine T_iload_n dX2_takeWord_14 rfl rfl ?_
      refine T_caldF (hv3 _ (by decide)) rfl (Nat.le_of_ble_eq_true rfl) _ (by omega) rfl dX2_takeWord_15 ?_
      refine T_si k_X2_isSmallLetter ml_X2_73 sm_yX2_isSmallLetter ini_RX2 co_yX2_isSmallLetter de_X2_isSmallLetter (by decide) (by decide) rfl (Nat.le_of_ble_eq_true rfl) dX2_takeWord_16 ?_
      refine T_if_eq 28 dX2_takeWord_19 (by decide) (fun h19 => ?_) (fun h19 => ?_)
      · rw [if_neg (b01_0 h19)] at hr
        rw [hr] at h28 ⊢
        exact h28
      · first | refine T_iincN3 dX2_takeWord_22 rfl (by decide) ?_ | refine T_iinc3 dX2_takeWord_22 rfl rfl (by decide) ?_
        refine T_goto 2 dX2_takeWord_25 (by decide) ?_
        rw [if_pos (b01_1 h19)] at hr
        exact ih (e + 1) (by omega) (by omega) hr
  refine T_iload_n dX2_takeWord_0 rfl rfl ?_
  refine T_istore3 dX2_takeWord_1 rfl (by decide) ?_
  exact hlp (len - s) s (by omega) (Nat.le_refl _) rfl
set_option maxHeartbeats 4000000 in
set_option maxRecDepth 100000 in
theorem k_X2_takeFigures {X : Cx} {l : Launch} {σ0 : Hp} {t : Rg} {f s len : Nat} (hv3 : Lv X 3 0) (hl : t 0 1 = nI len) (hl8 : len ≤ 80) (hf : f < 81) (hs : s < len) : Con X l yX2_takeFigures cX2_takeFigures 7 (some .int) 1 [.ref (adr X 3 0 0), .int (nI f), .int (nI s)] (setR σ0 3 0 t) (Ex (some (.int (nI (runF (t 1) (len - s) s)))) (setR σ0 3 0 (up2 (up2 t 2 f (fK (t 1) s (runF (t 1) (len - s) s))) 4 f (valF (t 1) s ((runF (t 1) (len - s) s) - s))))) := by
  refine Con_of [some (.ref (adr X 3 0 0)), some (.int (nI f)), some (.int (nI s)), none, none, none, none] (by decide) rfl (Nat.le_of_ble_eq_true rfl) ?_
  have hE := runF_le (t 1) (len - s) s
  have p1 : nI 2 < nI ((runF (t 1) (len - s) s) - s) → (2 < (runF (t 1) (len - s) s) - s ∨ (1 < (runF (t 1) (len - s) s) - s ∧ t 1 s = nI 48)) := fun h => Or.inl (Classical.byContradiction fun q => nI_nlt (by omega) (by omega) h)
  have p2 : ¬ nI ((runF (t 1) (len - s) s) - s) ≤ nI 1 → t 1 s = nI 48 → (2 < (runF (t 1) (len - s) s) - s ∨ (1 < (runF (t 1) (len - s) s) - s ∧ t 1 s = nI 48)) := fun h h2 => Or.inr ⟨Classical.byContradiction fun q => h (nI_le (by omega) (by omega)), h2⟩
  have n1 : ¬ nI 2 < nI ((runF (t 1) (len - s) s) - s) → nI ((runF (t 1) (len - s) s) - s) ≤ nI 1 → ¬ (2 < (runF (t 1) (len - s) s) - s ∨ (1 < (runF (t 1) (len - s) s) - s ∧ t 1 s = nI 48)) := fun h h2 q => by
    rcases q with q | q
    · exact h (nI_lt q (by omega))
    · exact absurd h2 (nI_ge q.1 (by omega))
  have n2 : ¬ nI 2 < nI ((runF (t 1) (len - s) s) - s) → ¬ t 1 s = nI 48 → ¬ (2 < (runF (t 1) (len - s) s) - s ∨ (1 < (runF (t 1) (len - s) s) - s ∧ t 1 s = nI 48)) := fun h h2 q => by
    rcases q with q | q
    · exact h (nI_lt q (by omega))
    · exact h2 q.2
  have h48 : T X l yX2_takeFigures cX2_takeFigures 7 (some .int) 1 48 [some (.ref (adr X 3 0 0)), some (.int (nI f)), some (.int (nI s)), some (.int (nI (runF (t 1) (len - s) s))), some (.int (valF (t 1) s ((runF (t 1) (len - s) s) - s))), none, none] [] (setR σ0 3 0 t) (Ex (some (.int (nI (runF (t 1) (len - s) s)))) (setR σ0 3 0 (up2 (up2 t 2 f (fK (t 1) s (runF (t 1) (len - s) s))) 4 f (valF (t 1) s ((runF (t 1) (len - s) s) - s))))) := by
    refine T_iload_n dX2_takeFigures_48 rfl rfl ?_
    refine T_iload_n dX2_takeFigures_49 rfl rfl ?_
    refine T_isub dX2_takeFigures_50 ?_
    rw [pk_sub hE.1]
    refine T_istore5 dX2_takeFigures_51 rfl (by decide) ?_
    refine T_iload dX2_takeFigures_53 rfl ?_
    refine T_iconst (v := nI 1) dX2_takeFigures_55 rfl ?_
    refine T_icmp_le 74 dX2_takeFigures_56 (by decide) (fun h56 => ?_) (fun h56 => ?_)
    · refine T_iconst (v := nI 0) dX2_takeFigures_74 rfl ?_
      refine T_istore6 dX2_takeFigures_75 rfl (by decide) ?_
      refine T_aload_n dX2_takeFigures_77 rfl rfl ?_
      refine T_g3F hv3 2 (by decide) fl_X2_19 rfl dX2_takeFigures_78 ?_
      refine T_iload_n dX2_takeFigures_81 rfl rfl ?_
      refine T_iload dX2_takeFigures_82 rfl ?_
      refine T_iconst (v := nI 2) dX2_takeFigures_84 rfl ?_
      refine T_icmp_gt 93 dX2_takeFigures_85 (by decide) (fun h85 => ?_) (fun h85 => ?_)
      · refine T_iconst (v := nI 5) dX2_takeFigures_93 rfl ?_
        refine T_goto 98 dX2_takeFigures_94 (by decide) ?_
        refine T_iastF (hv3 _ (by decide)) (fun _ => rfl) (Nat.le_of_ble_eq_true rfl) _ (by omega) rfl dX2_takeFigures_98 ?_
        refine T_aload_n dX2_takeFigures_99 rfl rfl ?_
        refine T_g3F hv3 4 (by decide) fl_X2_26 rfl dX2_takeFigures_100 ?_
        refine T_iload_n dX2_takeFigures_103 rfl rfl ?_
        refine T_iload dX2_takeFigures_104 rfl ?_
        refine T_iastF (hv3 _ (by decide)) (fun _ => rfl) (Nat.le_of_ble_eq_true rfl) _ (by omega) rfl dX2_takeFigures_106 ?_
        refine T_iload_n dX2_takeFigures_107 rfl rfl ?_
        refine T_iret rfl dX2_takeFigures_108 ?_
        first | (exact (nope1 h90).elim) | (exact (nope0 h90).elim) | (refine ⟨rfl, ?_⟩; rw [fK, if_pos (p1 h85)]; done) | (refine ⟨rfl, ?_⟩; rw [fK, if_pos (p2 h56 h67)]; done) | (refine ⟨rfl, ?_⟩; rw [fK, if_neg (n1 h85 h56)]; done) | (refine ⟨rfl, ?_⟩; rw [fK, if_neg (n2 h85 h67)]; done)
      · refine T_iload dX2_takeFigures_88 rfl ?_
        refine T_if_eq 97 dX2_takeFigures_90 (by decide) (fun h90 => ?_) (fun h90 => ?_)
        · refine T_iconst (v := nI 3) dX2_takeFigures_97 rfl ?_
          refine T_iastF (hv3 _ (by decide)) (fun _ => rfl) (Nat.le_of_ble_eq_true rfl) _ (by omega) rfl dX2_takeFigures_98 ?_
          refine T_aload_n dX2_takeFigures_99 rfl rfl ?_
          refine T_g3F hv3 4 (by decide) fl_X2_26 rfl dX2_takeFigures_100 ?_
          refine T_iload_n dX2_takeFigures_103 rfl rfl ?_
          refine T_iload dX2_takeFigures_104 rfl ?_
          refine T_iastF (hv3 _ (by decide)) (fun _ => rfl) (Nat.le_of_ble_eq_true rfl) _ (by omega) rfl dX2_takeFigures_106 ?_
          refine T_iload_n dX2_takeFigures_107 rfl rfl ?_
          refine T_iret rfl dX2_takeFigures_108 ?_
          first | (exact (nope1 h90).elim) | (exact (nope0 h90).elim) | (refine ⟨rfl, ?_⟩; rw [fK, if_pos (p1 h85)]; done) | (refine ⟨rfl, ?_⟩; rw [fK, if_pos (p2 h56 h67)]; done) | (refine ⟨rfl, ?_⟩; rw [fK, if_neg (n1 h85 h56)]; done) | (refine ⟨rfl, ?_⟩; rw [fK, if_neg (n2 h85 h67)]; done)
        · refine T_iconst (v := nI 5) dX2_takeFigures_93 rfl ?_
          refine T_goto 98 dX2_takeFigures_94 (by decide) ?_
          refine T_iastF (hv3 _ (by decide)) (fun _ => rfl) (Nat.le_of_ble_eq_true rfl) _ (by omega) rfl dX2_takeFigures_98 ?_
          refine T_aload_n dX2_takeFigures_99 rfl rfl ?_
          refine T_g3F hv3 4 (by decide) fl_X2_26 rfl dX2_takeFigures_100 ?_
          refine T_iload_n dX2_takeFigures_103 rfl rfl ?_
          refine T_iload dX2_takeFigures_104 rfl ?_
          refine T_iastF (hv3 _ (by decide)) (fun _ => rfl) (Nat.le_of_ble_eq_true rfl) _ (by omega) rfl dX2_takeFigures_106 ?_
          refine T_iload_n dX2_takeFigures_107 rfl rfl ?_
          refine T_iret rfl dX2_takeFigures_108 ?_
          first | (exact (nope1 h90).elim) | (exact (nope0 h90).elim) | (refine ⟨rfl, ?_⟩; rw [fK, if_pos (p1 h85)]; done) | (refine ⟨rfl, ?_⟩; rw [fK, if_pos (p2 h56 h67)]; done) | (refine ⟨rfl, ?_⟩; rw [fK, if_neg (n1 h85 h56)]; done) | (refine ⟨rfl, ?_⟩; rw [fK, if_neg (n2 h85 h67)]; done)
    · refine T_aload_n dX2_takeFigures_59 rfl rfl ?_
      refine T_g3F hv3 0 (by decide) fl_X2_9 rfl dX2_takeFigures_60 ?_
      refine T_iload_n dX2_takeFigures_63 rfl rfl ?_
      refine T_caldF (hv3 _ (by decide)) rfl (Nat.le_of_ble_eq_true rfl) _ (by omega) rfl dX2_takeFigures_64 ?_
      refine T_bipush (v := nI 48) dX2_takeFigures_65 (by decide) ?_
      refine T_icmp_ne 74 dX2_takeFigures_67 (by decide) (fun h67 => ?_) (fun h67 => ?_)
      · refine T_iconst (v := nI 0) dX2_takeFigures_74 rfl ?_
        refine T_istore6 dX2_takeFigures_75 rfl (by decide) ?_
        refine T_aload_n dX2_takeFigures_77 rfl rfl ?_
        refine T_g3F hv3 2 (by decide) fl_X2_19 rfl dX2_takeFigures_78 ?_
        refine T_iload_n dX2_takeFigures_81 rfl rfl ?_
        refine T_iload dX2_takeFigures_82 rfl ?_
        refine T_iconst (v := nI 2) dX2_takeFigures_84 rfl ?_
        refine T_icmp_gt 93 dX2_takeFigures_85 (by decide) (fun h85 => ?_) (fun h85 => ?_)
        · refine T_iconst (v := nI 5) dX2_takeFigures_93 rfl ?_
          refine T_goto 98 dX2_takeFigures_94 (by decide) ?_
          refine T_iastF (hv3 _ (by decide)) (fun _ => rfl) (Nat.le_of_ble_eq_true rfl) _ (by omega) rfl dX2_takeFigures_98 ?_
          refine T_aload_n dX2_takeFigures_99 rfl rfl ?_
          refine T_g3F hv3 4 (by decide) fl_X2_26 rfl dX2_takeFigures_100 ?_
          refine T_iload_n dX2_takeFigures_103 rfl rfl ?_
          refine T_iload dX2_takeFigures_104 rfl ?_
          refine T_iastF (hv3 _ (by decide)) (fun _ => rfl) (Nat.le_of_ble_eq_true rfl) _ (by omega) rfl dX2_takeFigures_106 ?_
          refine T_iload_n dX2_takeFigures_107 rfl rfl ?_
          refine T_iret rfl dX2_takeFigures_108 ?_
          first | (exact (nope1 h90).elim) | (exact (nope0 h90).elim) | (refine ⟨rfl, ?_⟩; rw [fK, if_pos (p1 h85)]; done) | (refine ⟨rfl, ?_⟩; rw [fK, if_pos (p2 h56 h67)]; done) | (refine ⟨rfl, ?_⟩; rw [fK, if_neg (n1 h85 h56)]; done) | (refine ⟨rfl, ?_⟩; rw [fK, if_neg (n2 h85 h67)]; done)
        · refine T_iload dX2_takeFigures_88 rfl ?_
          refine T_if_eq 97 dX2_takeFigures_90 (by decide) (fun h90 => ?_) (fun h90 => ?_)
          · refine T_iconst (v := nI 3) dX2_takeFigures_97 rfl ?_
            refine T_iastF (hv3 _ (by decide)) (fun _ => rfl) (Nat.le_of_ble_eq_true rfl) _ (by omega) rfl dX2_takeFigures_98 ?_
            refine T_aload_n dX2_takeFigures_99 rfl rfl ?_
            refine T_g3F hv3 4 (by decide) fl_X2_26 rfl dX2_takeFigures_100 ?_
            refine T_iload_n dX2_takeFigures_103 rfl rfl ?_
            refine T_iload dX2_takeFigures_104 rfl ?_
            refine T_iastF (hv3 _ (by decide)) (fun _ => rfl) (Nat.le_of_ble_eq_true rfl) _ (by omega) rfl dX2_takeFigures_106 ?_
            refine T_iload_n dX2_takeFigures_107 rfl rfl ?_
            refine T_iret rfl dX2_takeFigures_108 ?_
            first | (exact (nope1 h90).elim) | (exact (nope0 h90).elim) | (refine ⟨rfl, ?_⟩; rw [fK, if_pos (p1 h85)]; done) | (refine ⟨rfl, ?_⟩; rw [fK, if_pos (p2 h56 h67)]; done) | (refine ⟨rfl, ?_⟩; rw [fK, if_neg (n1 h85 h56)]; done) | (refine ⟨rfl, ?_⟩; rw [fK, if_neg (n2 h85 h67)]; done)
          · refine T_iconst (v := nI 5) dX2_takeFigures_93 rfl ?_
            refine T_goto 98 dX2_takeFigures_94 (by decide) ?_
            refine T_iastF (hv3 _ (by decide)) (fun _ => rfl) (Nat.le_of_ble_eq_true rfl) _ (by omega) rfl dX2_takeFigures_98 ?_
            refine T_aload_n dX2_takeFigures_99 rfl rfl ?_
            refine T_g3F hv3 4 (by decide) fl_X2_26 rfl dX2_takeFigures_100 ?_
            refine T_iload_n dX2_takeFigures_103 rfl rfl ?_
            refine T_iload dX2_takeFigures_104 rfl ?_
            refine T_iastF (hv3 _ (by decide)) (fun _ => rfl) (Nat.le_of_ble_eq_true rfl) _ (by omega) rfl dX2_takeFigures_106 ?_
            refine T_iload_n dX2_takeFigures_107 rfl rfl ?_
            refine T_iret rfl dX2_takeFigures_108 ?_
            first | (exact (nope1 h90).elim) | (exact (nope0 h90).elim) | (refine ⟨rfl, ?_⟩; rw [fK, if_pos (p1 h85)]; done) | (refine ⟨rfl, ?_⟩; rw [fK, if_pos (p2 h56 h67)]; done) | (refine ⟨rfl, ?_⟩; rw [fK, if_neg (n1 h85 h56)]; done) | (refine ⟨rfl, ?_⟩; rw [fK, if_neg (n2 h85 h67)]; done)
      · refine T_iconst (v := nI 1) dX2_takeFigures_70 rfl ?_
        refine T_goto 75 dX2_takeFigures_71 (by decide) ?_
        refine T_istore6 dX2_takeFigures_75 rfl (by decide) ?_
        refine T_aload_n dX2_takeFigures_77 rfl rfl ?_
        refine T_g3F hv3 2 (by decide) fl_X2_19 rfl dX2_takeFigures_78 ?_
        refine T_iload_n dX2_takeFigures_81 rfl rfl ?_
        refine T_iload dX2_takeFigures_82 rfl ?_
        refine T_iconst (v := nI 2) dX2_takeFigures_84 rfl ?_
        refine T_icmp_gt 93 dX2_takeFigures_85 (by decide) (fun h85 => ?_) (fun h85 => ?_)
        · refine T_iconst (v := nI 5) dX2_takeFigures_93 rfl ?_
          refine T_goto 98 dX2_takeFigures_94 (by decide) ?_
          refine T_iastF (hv3 _ (by decide)) (fun _ => rfl) (Nat.le_of_ble_eq_true rfl) _ (by omega) rfl dX2_takeFigures_98 ?_
          refine T_aload_n dX2_takeFigures_99 rfl rfl ?_
          refine T_g3F hv3 4 (by decide) fl_X2_26 rfl dX2_takeFigures_100 ?_
          refine T_iload_n dX2_takeFigures_103 rfl rfl ?_
          refine T_iload dX2_takeFigures_104 rfl ?_
          refine T_iastF (hv3 _ (by decide)) (fun _ => rfl) (Nat.le_of_ble_eq_true rfl) _ (by omega) rfl dX2_takeFigures_106 ?_
          refine T_iload_n dX2_takeFigures_107 rfl rfl ?_
          refine T_iret rfl dX2_takeFigures_108 ?_
          first | (exact (nope1 h90).elim) | (exact (nope0 h90).elim) | (refine ⟨rfl, ?_⟩; rw [fK, if_pos (p1 h85)]; done) | (refine ⟨rfl, ?_⟩; rw [fK, if_pos (p2 h56 h67)]; done) | (refine ⟨rfl, ?_⟩; rw [fK, if_neg (n1 h85 h56)]; done) | (refine ⟨rfl, ?_⟩; rw [fK, if_neg (n2 h85 h67)]; done)
        · refine T_iload dX2_takeFigures_88 rfl ?_
          refine T_if_eq 97 dX2_takeFigures_90 (by decide) (fun h90 => ?_) (fun h90 => ?_)
          · refine T_iconst (v := nI 3) dX2_takeFigures_97 rfl ?_
            refine T_iastF (hv3 _ (by decide)) (fun _ => rfl) (Nat.le_of_ble_eq_true rfl) _ (by omega) rfl dX2_takeFigures_98 ?_
            refine T_aload_n dX2_takeFigures_99 rfl rfl ?_
            refine T_g3F hv3 4 (by decide) fl_X2_26 rfl dX2_takeFigures_100 ?_
            refine T_iload_n dX2_takeFigures_103 rfl rfl ?_
            refine T_iload dX2_takeFigures_104 rfl ?_
            refine T_iastF (hv3 _ (by decide)) (fun _ => rfl) (Nat.le_of_ble_eq_true rfl) _ (by omega) rfl dX2_takeFigures_106 ?_
            refine T_iload_n dX2_takeFigures_107 rfl rfl ?_
            refine T_iret rfl dX2_takeFigures_108 ?_
            first | (exact (nope1 h90).elim) | (exact (nope0 h90).elim) | (refine ⟨rfl, ?_⟩; rw [fK, if_pos (p1 h85)]; done) | (refine ⟨rfl, ?_⟩; rw [fK, if_pos (p2 h56 h67)]; done) | (refine ⟨rfl, ?_⟩; rw [fK, if_neg (n1 h85 h56)]; done) | (refine ⟨rfl, ?_⟩; rw [fK, if_neg (n2 h85 h67)]; done)
          · refine T_iconst (v := nI 5) dX2_takeFigures_93 rfl ?_
            refine T_goto 98 dX2_takeFigures_94 (by decide) ?_
            refine T_iastF (hv3 _ (by decide)) (fun _ => rfl) (Nat.le_of_ble_eq_true rfl) _ (by omega) rfl dX2_takeFigures_98 ?_
            refine T_aload_n dX2_takeFigures_99 rfl rfl ?_
            refine T_g3F hv3 4 (by decide) fl_X2_26 rfl dX2_takeFigures_100 ?_
            refine T_iload_n dX2_takeFigures_103 rfl rfl ?_
            refine T_iload dX2_takeFigures_104 rfl ?_
            refine T_iastF (hv3 _ (by decide)) (fun _ => rfl) (Nat.le_of_ble_eq_true rfl) _ (by omega) rfl dX2_takeFigures_106 ?_
            refine T_iload_n dX2_takeFigures_107 rfl rfl ?_
            refine T_iret rfl dX2_takeFigures_108 ?_
            first | (exact (nope1 h90).elim) | (exact (nope0 h90).elim) | (refine ⟨rfl, ?_⟩; rw [fK, if_pos (p1 h85)]; done) | (refine ⟨rfl, ?_⟩; rw [fK, if_pos (p2 h56 h67)]; done) | (refine ⟨rfl, ?_⟩; rw [fK, if_neg (n1 h85 h56)]; done) | (refine ⟨rfl, ?_⟩; rw [fK, if_neg (n2 h85 h67)]; done)
  have hlp : ∀ n e : Nat, e + n = len → s ≤ e → (runF (t 1) (len - s) s) = runF (t 1) n e → T X l yX2_takeFigures cX2_takeFigures 7 (some .int) 1 5 [some (.ref (adr X 3 0 0)), some (.int (nI f)), some (.int (nI s)), some (.int (nI e)), some (.int (valF (t 1) s (e - s))), none, none] [] (setR σ0 3 0 t) (Ex (some (.int (nI (runF (t 1) (len - s) s)))) (setR σ0 3 0 (up2 (up2 t 2 f (fK (t 1) s (runF (t 1) (len - s) s))) 4 f (valF (t 1) s ((runF (t 1) (len - s) s) - s))))) := by
    intro n
    induction n with
    | zero =>
      intro e he hse hr
      have he : e = len := by omega
      subst he
      rw [runF] at hr
      refine T_iload_n dX2_takeFigures_5 rfl rfl ?_
      refine T_aload_n dX2_takeFigures_6 rfl rfl ?_
      refine T_g3F hv3 1 (by decide) fl_X2_15 rfl dX2_takeFigures_7 ?_
      refine T_icmp_ge 48 dX2_takeFigures_10 (by decide) (fun h10 => ?_) (fun h10 => (absurd (by rw [hl]; exact nI_le (Nat.le_refl _) (by omega)) h10))
      rw [hr] at h48 ⊢
      exact h48
    | succ n ih =>
      intro e he hse hr
      rw [runF] at hr
      refine T_iload_n dX2_takeFigures_5 rfl rfl ?_
      refine T_aload_n dX2_takeFigures_6 rfl rfl ?_
      refine T_g3F hv3 1 (by decide) fl_X2_15 rfl dX2_takeFigures_7 ?_
      refine T_icmp_ge 48 dX2_takeFigures_10 (by decide) (fun h10 => (absurd (hl ▸ h10) (nI_ge (show e < len by omega) (by omega)))) (fun h10 => ?_)
      refine T_aload_n dX2_takeFigures_13 rfl rfl ?_
      refine T_g3F hv3 0 (by decide) fl_X2_9 rfl dX2_takeFigures_14 ?_
      refine T_iload_n dX2_takeFigures_17 rfl rfl ?_
      refine T_caldF (hv3 _ (by decide)) rfl (Nat.le_of_ble_eq_true rfl) _ (by omega) rfl dX2_takeFigures_18 ?_
      refine T_si k_X2_isFigure ml_X2_80 sm_yX2_isFigure ini_RX2 co_yX2_isFigure de_X2_isFigure (by decide) (by decide) rfl (Nat.le_of_ble_eq_true rfl) dX2_takeFigures_19 ?_
      refine T_if_eq 48 dX2_takeFigures_22 (by decide) (fun h22 => ?_) (fun h22 => ?_)
      · rw [if_neg (b01_0 h22)] at hr
        rw [hr] at h48 ⊢
        exact h48
      · refine T_iload dX2_takeFigures_25 rfl ?_
        refine T_bipush (v := nI 10) dX2_takeFigures_27 (by decide) ?_
        refine T_imul dX2_takeFigures_29 ?_
        refine T_aload_n dX2_takeFigures_30 rfl rfl ?_
        refine T_g3F hv3 0 (by decide) fl_X2_9 rfl dX2_takeFigures_31 ?_
        refine T_iload_n dX2_takeFigures_34 rfl rfl ?_
        refine T_caldF (hv3 _ (by decide)) rfl (Nat.le_of_ble_eq_true rfl) _ (by omega) rfl dX2_takeFigures_35 ?_
        refine T_bipush (v := nI 48) dX2_takeFigures_36 (by decide) ?_
        refine T_isub dX2_takeFigures_38 ?_
        refine T_iadd dX2_takeFigures_39 ?_
        refine T_istore4 dX2_takeFigures_40 rfl (by decide) ?_
        first | refine T_iincN3 dX2_takeFigures_42 rfl (by decide) ?_ | refine T_iinc3 dX2_takeFigures_42 rfl rfl (by decide) ?_
        refine T_goto 5 dX2_takeFigures_45 (by decide) ?_
        rw [if_pos (b01_1 h22)] at hr
        have h9 := ih (e + 1) (by omega) (by omega) hr
        rw [show e + 1 - s = (e - s) + 1 by omega, valF, show s + (e - s) = e by omega] at h9
        exact h9
  refine T_iload_n dX2_takeFigures_0 rfl rfl ?_
  refine T_istore3 dX2_takeFigures_1 rfl (by decide) ?_
  refine T_iconst (v := nI 0) dX2_takeFigures_2 rfl ?_
  refine T_istore4 dX2_takeFigures_3 rfl (by decide) ?_
  have h9 := hlp (len - s) s (by omega) (Nat.le_refl _) rfl
  rw [Nat.sub_self] at h9
  exact h9
set_option maxHeartbeats 4000000 in
set_option maxRecDepth 100000 in
theorem k_X2_takeToken {X : Cx} {l : Launch} {σ0 : Hp} {t : Rg} {f s len : Nat} (hv3 : Lv X 3 0) (hl : t 0 1 = nI len) (hl8 : len ≤ 80) (hf : f < 81) (hs : s < len) : Con X l yX2_takeToken cX2_takeToken 3 (some .int) 6 [.ref (adr X 3 0 0), .int (nI f), .int (nI s)] (setR σ0 3 0 t) (Ex (some (.int (nI (tkE (t 1) len s)))) (setR σ0 3 0 (tkU t len f s))) := by
  refine Con_of [some (.ref (adr X 3 0 0)), some (.int (nI f)), some (.int (nI s))] (by decide) rfl (Nat.le_of_ble_eq_true rfl) ?_
  refine T_aload_n dX2_takeToken_0 rfl rfl ?_
  refine T_g3F hv3 0 (by decide) fl_X2_9 rfl dX2_takeToken_1 ?_
  refine T_iload_n dX2_takeToken_4 rfl rfl ?_
  refine T_caldF (hv3 _ (by decide)) rfl (Nat.le_of_ble_eq_true rfl) _ (by omega) rfl dX2_takeToken_5 ?_
  refine T_si k_X2_isSmallLetter ml_X2_73 sm_yX2_isSmallLetter ini_RX2 co_yX2_isSmallLetter de_X2_isSmallLetter (by decide) (by decide) rfl (Nat.le_of_ble_eq_true rfl) dX2_takeToken_6 ?_
  refine T_if_eq 19 dX2_takeToken_9 (by decide) (fun h9 => ?_) (fun h9 => ?_)
  · refine T_aload_n dX2_takeToken_19 rfl rfl ?_
    refine T_g3F hv3 0 (by decide) fl_X2_9 rfl dX2_takeToken_20 ?_
    refine T_iload_n dX2_takeToken_23 rfl rfl ?_
    refine T_caldF (hv3 _ (by decide)) rfl (Nat.le_of_ble_eq_true rfl) _ (by omega) rfl dX2_takeToken_24 ?_
    refine T_si k_X2_isFigure ml_X2_80 sm_yX2_isFigure ini_RX2 co_yX2_isFigure de_X2_isFigure (by decide) (by decide) rfl (Nat.le_of_ble_eq_true rfl) dX2_takeToken_25 ?_
    refine T_if_eq 38 dX2_takeToken_28 (by decide) (fun h28 => ?_) (fun h28 => ?_)
    · refine T_aload_n dX2_takeToken_38 rfl rfl ?_
      refine T_g3F hv3 2 (by decide) fl_X2_19 rfl dX2_takeToken_39 ?_
      refine T_iload_n dX2_takeToken_42 rfl rfl ?_
      refine T_aload_n dX2_takeToken_43 rfl rfl ?_
      refine T_g3F hv3 0 (by decide) fl_X2_9 rfl dX2_takeToken_44 ?_
      refine T_iload_n dX2_takeToken_47 rfl rfl ?_
      refine T_caldF (hv3 _ (by decide)) rfl (Nat.le_of_ble_eq_true rfl) _ (by omega) rfl dX2_takeToken_48 ?_
      refine T_bipush (v := nI 59) dX2_takeToken_49 (by decide) ?_
      refine T_icmp_ne 58 dX2_takeToken_51 (by decide) (fun h51 => ?_) (fun h51 => ?_)
      · refine T_iconst (v := nI 5) dX2_takeToken_58 rfl ?_
        refine T_iastF (hv3 _ (by decide)) (fun _ => rfl) (Nat.le_of_ble_eq_true rfl) _ (by omega) rfl dX2_takeToken_59 ?_
        refine T_iload_n dX2_takeToken_60 rfl rfl ?_
        refine T_iconst (v := nI 1) dX2_takeToken_61 rfl ?_
        first | refine T_iaddN dX2_takeToken_62 ?_ | refine T_iadd dX2_takeToken_62 ?_
        refine T_iret rfl dX2_takeToken_63 ?_
        first | (have a := b01_0 h9; have b := b01_0 h28; refine ⟨?_, ?_⟩; rw [tkE, if_neg a, if_neg b]; rw [tkU, if_neg a, if_neg b, tkK, if_neg a, if_neg b, if_pos h51]) | (have a := b01_0 h9; have b := b01_0 h28; refine ⟨?_, ?_⟩; rw [tkE, if_neg a, if_neg b]; rw [tkU, if_neg a, if_neg b, tkK, if_neg a, if_neg b, if_neg h51])
      · refine T_iconst (v := nI 4) dX2_takeToken_54 rfl ?_
        refine T_goto 59 dX2_takeToken_55 (by decide) ?_
        refine T_iastF (hv3 _ (by decide)) (fun _ => rfl) (Nat.le_of_ble_eq_true rfl) _ (by omega) rfl dX2_takeToken_59 ?_
        refine T_iload_n dX2_takeToken_60 rfl rfl ?_
        refine T_iconst (v := nI 1) dX2_takeToken_61 rfl ?_
        first | refine T_iaddN dX2_takeToken_62 ?_ | refine T_iadd dX2_takeToken_62 ?_
        refine T_iret rfl dX2_takeToken_63 ?_
        first | (have a := b01_0 h9; have b := b01_0 h28; refine ⟨?_, ?_⟩; rw [tkE, if_neg a, if_neg b]; rw [tkU, if_neg a, if_neg b, tkK, if_neg a, if_neg b, if_pos h51]) | (have a := b01_0 h9; have b := b01_0 h28; refine ⟨?_, ?_⟩; rw [tkE, if_neg a, if_neg b]; rw [tkU, if_neg a, if_neg b, tkK, if_neg a, if_neg b, if_neg h51])
    · refine T_aload_n dX2_takeToken_31 rfl rfl ?_
      refine T_iload_n dX2_takeToken_32 rfl rfl ?_
      refine T_iload_n dX2_takeToken_33 rfl rfl ?_
      refine T_vi (Rc_of (hv3 0 (by decide)) rfl rfl) (k_X2_takeFigures hv3 hl hl8 hf hs) ml_X2_83 im_yX2_takeFigures se_RX2_yX2_takeFigures ini_RX2 co_yX2_takeFigures rfl de_X2_takeFigures (by decide) (by decide) rfl (Nat.le_of_ble_eq_true rfl) dX2_takeToken_34 ?_
      refine T_iret rfl dX2_takeToken_37 ?_
      have a := b01_0 h9
      have b := b01_1 h28
      exact ⟨by rw [tkE, if_neg a, if_pos b], by rw [tkU, if_neg a, if_pos b, tkK, if_neg a, if_pos b, tkE, if_neg a, if_pos b]⟩
  · refine T_aload_n dX2_takeToken_12 rfl rfl ?_
    refine T_iload_n dX2_takeToken_13 rfl rfl ?_
    refine T_iload_n dX2_takeToken_14 rfl rfl ?_
    refine T_vi (Rc_of (hv3 0 (by decide)) rfl rfl) (k_X2_takeWord hv3 hl hl8 hf hs) ml_X2_77 im_yX2_takeWord se_RX2_yX2_takeWord ini_RX2 co_yX2_takeWord rfl de_X2_takeWord (by decide) (by decide) rfl (Nat.le_of_ble_eq_true rfl) dX2_takeToken_15 ?_
    refine T_iret rfl dX2_takeToken_18 ?_
    have b := b01_1 h9
    exact ⟨by rw [tkE, if_pos b], by rw [tkU, if_pos b, tkK, if_pos b, tkE, if_pos b]⟩
theorem tkE_gt (g : Nat → Int32) {len s : Nat} (hs : s < len) : s < tkE g len s ∧ tkE g len s ≤ len := by
  obtain ⟨m, hm⟩ : ∃ m, len - s = m + 1 := ⟨len - s - 1, by omega⟩
  unfold tkE
  split
  · rename_i h
    rw [hm, runL, if_pos h]
    have := runL_le g m (s + 1)
    omega
  · split
    · rename_i h
      rw [hm, runF, if_pos h]
      have := runF_le g m (s + 1)
      omega
    · omega
theorem tkU_0 (t : Rg) (len f s : Nat) : tkU t len f s 0 = t 0 := by
  unfold tkU
  split
  · rfl
  · split <;> rfl
theorem tkU_1 (t : Rg) (len f s : Nat) : tkU t len f s 1 = t 1 := by
  unfold tkU
  split
  · rfl
  · split <;> rfl
set_option maxHeartbeats 4000000 in
set_option maxRecDepth 100000 in
theorem k_X2_findTokens {X : Cx} {l : Launch} {σ0 : Hp} {t : Rg} {len : Nat} (hv3 : Lv X 3 0) (hl : t 0 1 = nI len) (hl8 : len ≤ 80) : Con X l yX2_findTokens cX2_findTokens 3 none 7 [.ref (adr X 3 0 0)] (setR σ0 3 0 t) (Ex none (setR σ0 3 0 (finS t len))) := by
  refine Con_of [some (.ref (adr X 3 0 0)), none, none] (by decide) rfl (Nat.le_of_ble_eq_true rfl) ?_
  obtain ⟨R, hR⟩ : ∃ R, R = ftS len (len + 1) t 0 0 := ⟨_, rfl⟩
  have hlp : ∀ (n : Nat) (t2 : Rg) (f p : Nat), len - p < n → f ≤ p → p ≤ len → t2 0 = t 0 → t2 1 = t 1 → R = ftS len n t2 f p → T X l yX2_findTokens cX2_findTokens 3 none 7 4 [some (.ref (adr X 3 0 0)), some (.int (nI f)), some (.int (nI p))] [] (setR σ0 3 0 t2) (Ex none (setR σ0 3 0 (finS t len))) := by
    intro n
    induction n with
    | zero => intro t2 f p h1; omega
    | succ n ih =>
      intro t2 f p h1 h2 h3 h4 h5 hr
      have hl2 : t2 0 1 = nI len := by rw [h4]; exact hl
      rw [ftS] at hr
      refine T_iload_n dX2_findTokens_4 rfl rfl ?_
      refine T_aload_n dX2_findTokens_5 rfl rfl ?_
      refine T_g3F hv3 1 (by decide) fl_X2_15 rfl dX2_findTokens_6 ?_
      refine T_icmp_ge 55 dX2_findTokens_9 (by decide) (fun h9 => ?_) (fun h9 => ?_)
      · have hp : ¬ p < len := fun z => absurd (hl2 ▸ h9) (nI_ge z (by omega))
        rw [if_neg hp] at hr
        refine T_aload_n dX2_findTokens_55 rfl rfl ?_
        refine T_g3F hv3 2 (by decide) fl_X2_19 rfl dX2_findTokens_56 ?_
        refine T_iload_n dX2_findTokens_59 rfl rfl ?_
        refine T_iconst (v := nI 0) dX2_findTokens_60 rfl ?_
        refine T_iastF (hv3 _ (by decide)) (fun _ => rfl) (Nat.le_of_ble_eq_true rfl) _ (by omega) rfl dX2_findTokens_61 ?_
        refine T_aload_n dX2_findTokens_62 rfl rfl ?_
        refine T_g3F hv3 3 (by decide) fl_X2_23 rfl dX2_findTokens_63 ?_
        refine T_iload_n dX2_findTokens_66 rfl rfl ?_
        refine T_aload_n dX2_findTokens_67 rfl rfl ?_
        refine T_g3F hv3 1 (by decide) fl_X2_15 rfl dX2_findTokens_68 ?_
        refine T_iastF (hv3 _ (by decide)) (fun _ => rfl) (Nat.le_of_ble_eq_true rfl) _ (by omega) rfl dX2_findTokens_71 ?_
        refine T_vret rfl dX2_findTokens_72 ?_
        refine ⟨rfl, ?_⟩
        rw [finS, ← hR, hr]
        show setR σ0 3 0 (up2 (up2 t2 2 f (nI 0)) 3 f (t2 0 1)) = _
        rw [hl2]
      · have hp : p < len := Classical.byContradiction fun z => h9 (by rw [hl2]; exact nI_le (by omega) (by omega))
        rw [if_pos hp] at hr
        refine T_iload_n dX2_findTokens_12 rfl rfl ?_
        refine T_bipush (v := nI 80) dX2_findTokens_13 (by decide) ?_
        refine T_icmp_ge 55 dX2_findTokens_15 (by decide) (fun h15 => (absurd h15 (nI_ge (show f < 80 by omega) (by omega)))) (fun h15 => ?_)
        refine T_aload_n dX2_findTokens_18 rfl rfl ?_
        refine T_g3F hv3 0 (by decide) fl_X2_9 rfl dX2_findTokens_19 ?_
        refine T_iload_n dX2_findTokens_22 rfl rfl ?_
        refine T_caldF (hv3 _ (by decide)) rfl (Nat.le_of_ble_eq_true rfl) _ (by omega) rfl dX2_findTokens_23 ?_
        refine T_bipush (v := nI 32) dX2_findTokens_24 (by decide) ?_
        refine T_icmp_ne 35 dX2_findTokens_26 (by decide) (fun h26 => ?_) (fun h26 => ?_)
        · rw [if_neg (show ¬ t2 1 p = nI 32 from h26)] at hr
          have hg := tkE_gt (t2 1) hp
          refine T_aload_n dX2_findTokens_35 rfl rfl ?_
          refine T_g3F hv3 3 (by decide) fl_X2_23 rfl dX2_findTokens_36 ?_
          refine T_iload_n dX2_findTokens_39 rfl rfl ?_
          refine T_iload_n dX2_findTokens_40 rfl rfl ?_
          refine T_iastF (hv3 _ (by decide)) (fun _ => rfl) (Nat.le_of_ble_eq_true rfl) _ (by omega) rfl dX2_findTokens_41 ?_
          refine T_aload_n dX2_findTokens_42 rfl rfl ?_
          refine T_iload_n dX2_findTokens_43 rfl rfl ?_
          refine T_iload_n dX2_findTokens_44 rfl rfl ?_
          refine T_vi (Rc_of (hv3 0 (by decide)) rfl rfl) (k_X2_takeToken hv3 (show up2 t2 3 f (nI p) 0 1 = nI len from hl2) hl8 (by omega) hp) ml_X2_69 im_yX2_takeToken se_RX2_yX2_takeToken ini_RX2 co_yX2_takeToken rfl de_X2_takeToken (by decide) (by decide) rfl (Nat.le_of_ble_eq_true rfl) dX2_findTokens_45 ?_
          refine T_istore2 dX2_findTokens_48 rfl (by decide) ?_
          first | refine T_iincN1 dX2_findTokens_49 rfl (by decide) ?_ | refine T_iinc1 dX2_findTokens_49 rfl rfl (by decide) ?_
          refine T_goto 4 dX2_findTokens_52 (by decide) ?_
          first | (exact ih t2 f (p + 1) (by omega) (by omega) (by omega) h4 h5 hr) | (exact ih (tkU (up2 t2 3 f (nI p)) len f p) (f + 1) (tkE (t2 1) len p) (by omega) (by omega) (by omega) ((tkU_0 _ _ _ _).trans h4) ((tkU_1 _ _ _ _).trans h5) hr)
        · rw [if_pos (show t2 1 p = nI 32 from h26)] at hr
          first | refine T_iincN2 dX2_findTokens_29 rfl (by decide) ?_ | refine T_iinc2 dX2_findTokens_29 rfl rfl (by decide) ?_
          refine T_goto 4 dX2_findTokens_32 (by decide) ?_
          first | (exact ih t2 f (p + 1) (by omega) (by omega) (by omega) h4 h5 hr) | (exact ih (tkU (up2 t2 3 f (nI p)) len f p) (f + 1) (tkE (t2 1) len p) (by omega) (by omega) (by omega) ((tkU_0 _ _ _ _).trans h4) ((tkU_1 _ _ _ _).trans h5) hr)
  refine T_iconst (v := nI 0) dX2_findTokens_0 rfl ?_
  refine T_istore1 dX2_findTokens_1 rfl (by decide) ?_
  refine T_iconst (v := nI 0) dX2_findTokens_2 rfl ?_
  refine T_istore2 dX2_findTokens_3 rfl (by decide) ?_
  exact hlp (len + 1) t 0 0 (by omega) (Nat.le_refl _) (Nat.zero_le _) rfl rfl hR
end
section
/-! ===== the text's items, told into ledger 1 ===== -/
def tcS (t h : Rg) (n : Nat) : Int32 × Nat × Rg := if pN t n (nI 2) (nI 4) then (if t 2 (n + 1) = nI 4 then (nI 1, n + 2, up2 h 0 0 (t 4 n)) else (nI 0, n + 1, up2 h 0 0 (t 4 n))) else (nI 0, n, h)
def tbS (t h : Rg) (n : Nat) : Int32 × Nat × Rg :=
  if pN t n (nI 0) (h 0 0 - nI 1) then
    if pN t (n + 1) (nI 0) (nI 99) then
      if pN t (n + 2) (nI 0) (nI 9) then
        if pN t (n + 3) (nI 0) (nI 99) then
          (if t 2 (n + 4) = nI 4 then (nI 1, n + 5, setbS h (t 4 n).toNatClampNeg (t 4 (n + 1)) (t 4 (n + 2)) (t 4 (n + 3))) else (nI 0, n + 4, setbS h (t 4 n).toNatClampNeg (t 4 (n + 1)) (t 4 (n + 2)) (t 4 (n + 3))))
        else (nI 0, n + 3, h)
      else (nI 0, n + 2, h)
    else (nI 0, n + 1, h)
  else (nI 0, n, h)
def tiS (t h : Rg) (n : Nat) (b : Int32) : Int32 × Nat × Rg := if ¬ b = 0 ∧ t 2 n = nI 1 then tcS t h (n + 1) else if t 2 n = nI 2 then tbS t h (n + 1) else (nI 0, n, h)
def fB (k : Nat) : Int32 := if k = 0 then nI 1 else nI 0
/-- all items from token n on: the answer, the token, the ledger -/
def plS (t : Rg) : Nat → Nat → Rg → Nat → Int32 × Nat × Rg
  | 0, n, h, k => (nI k, n, h)
  | f + 1, n, h, k => if t 2 n = nI 0 then (nI k, n, spaS h (nC h)) else if (tiS t h n (fB k)).1 = 0 then (-10 - t 3 (tiS t h n (fB k)).2.1, (tiS t h n (fB k)).2.1, (tiS t h n (fB k)).2.2) else plS t f (tiS t h n (fB k)).2.1 (tiS t h n (fB k)).2.2 (k + 1)
theorem s2_comm (σ0 : Hp) (t h : Rg) : setR (setR σ0 1 1 h) 3 0 t = setR (setR σ0 3 0 t) 1 1 h := by
  funext K r
  unfold setR
  by_cases h1 : K = 3 ∧ r = 0
  · have h2 : ¬ (K = 1 ∧ r = 1) := by omega
    rw [if_pos h1, if_neg h2, if_pos h1]
  · rw [if_neg h1]
    by_cases h2 : K = 1 ∧ r = 1
    · rw [if_pos h2, if_pos h2]
    · rw [if_neg h2, if_neg h2, if_neg h1]
theorem s2_put (σ0 : Hp) (t h h' : Rg) : setR (setR (setR σ0 1 1 h) 3 0 t) 1 1 h' = setR (setR σ0 1 1 h') 3 0 t := by
  rw [s2_comm, setR_setR, s2_comm]
section S2ROWS
variable {X : Cx} {l : Launch} {y : MethodName} {cc : ByteArray} {nL : Nat} {ret : Option FieldType} {d pc : Nat} {ls : List (Option Value)} {st : List Value} {σ0 : Hp} {t h : Rg} {Q : Option Value → Hp → Prop}
theorem con_s2 {As : List Value} {r0 : Option Value} {h1 h2 : Rg} (hc : Con X l y cc nL ret d As (setR (setR σ0 3 0 t) 1 1 h1) (Ex r0 (setR (setR σ0 3 0 t) 1 1 h2))) : Con X l y cc nL ret d As (setR (setR σ0 1 1 h1) 3 0 t) (Ex r0 (setR (setR σ0 1 1 h2) 3 0 t)) := by
  rw [s2_comm, s2_comm]
  exact hc
theorem T_g1S {index : Nat} {v : Value} (hL : Lv X 1 1) (f : Nat) (hf : f < 13) (hlink : Cond.fieldLink y.cls index (TX1 f).1 (TX1 f).2.1 (TX1 f).2.2.1 ∈ tb) (hv : (fl1 X 1 (h 0))[f]? = some v) (hd : decode cc pc = .ok (.getfield index, 3)) (k : T X l y cc nL ret d (pc + 3) ls (v :: st) (setR (setR σ0 1 1 h) 3 0 t) Q) : T X l y cc nL ret d pc ls (.ref (adr X 1 1 0) :: st) (setR (setR σ0 1 1 h) 3 0 t) Q :=
  T_get (g := h 0) (fs := fl1 X 1 (h 0)) rfl (hL 0 (by decide)) rfl rfl inX1 f hf hlink hv hd k
theorem T_p1S {index : Nat} {x : Int32} (hL : Lv X 1 1) (f : Nat) (hf : f < 13) (hfin : (TX1 f).2.2.2 = false) (hI : tyX1 f = .int) (hlink : Cond.fieldLink y.cls index (TX1 f).1 (TX1 f).2.1 (TX1 f).2.2.1 ∈ tb) (hfl : f < 13) (hset : fl1 X 1 (upd (h 0) f x) = (fl1 X 1 (h 0)).set f (.int x)) (hd : decode cc pc = .ok (.putfield index, 3)) (k : T X l y cc nL ret d (pc + 3) ls st (setR (setR σ0 1 1 (up2 h 0 f x)) 3 0 t) Q) : T X l y cc nL ret d pc ls (.int x :: .ref (adr X 1 1 0) :: st) (setR (setR σ0 1 1 h) 3 0 t) Q :=
  T_put (h := h) (fs := fl1 X 1 (h 0)) rfl (hL 0 (by decide)) rfl rfl inX1 tyX1 tyX1_ok nmX1 f hf hfin hI hlink hfl (congrArg (fun z => Sum.inr (1, z)) hset) (s2_put σ0 t h _) hd k
end S2ROWS
theorem tk_05 (t : Rg) (n : Nat) : tk t n 0 5 = nI n := rfl
theorem ne03 : ¬ nI 0 = nI 3 := by decide
theorem ne01 : ¬ nI 0 = nI 1 := by decide
theorem ne02 : ¬ nI 0 = nI 2 := by decide
theorem ne04 : ¬ nI 0 = nI 4 := by decide
/-- a token that isn't the end stands ahead of it -/
theorem tok_lt {t : Rg} {n N : Nat} {x : Int32} (hE : t 2 N = nI 0) (hn : n ≤ N) (h : t 2 n = x) (hx : ¬ nI 0 = x) : n < N := by
  rcases Nat.lt_or_ge n N with q | q
  · exact q
  · have e : n = N := by omega
    rw [e, hE] at h
    exact absurd h hx
set_option maxHeartbeats 4000000 in
set_option maxRecDepth 100000 in
theorem k_X2_tellCopies {X : Cx} {l : Launch} {σ0 : Hp} {t h : Rg} {n N : Nat} (hv3 : Lv X 3 0) (hv1 : Lv X 1 1) (hE : t 2 N = nI 0) (hN : N ≤ 80) (hn : n ≤ N) : Con X l yX2_tellCopies cX2_tellCopies 2 (some .boolean) 1 [.ref (adr X 3 0 0), .ref (adr X 1 1 0)] (setR (setR σ0 1 1 h) 3 0 (tk t n)) (Ex (some (.int (tcS t h n).1)) (setR (setR σ0 1 1 (tcS t h n).2.2) 3 0 (tk t (tcS t h n).2.1))) := by
  refine Con_of [some (.ref (adr X 3 0 0)), some (.ref (adr X 1 1 0))] (by decide) rfl (Nat.le_of_ble_eq_true rfl) ?_
  have h11 : pN t n (nI 2) (nI 4) → n < N → T X l yX2_tellCopies cX2_tellCopies 2 (some .boolean) 1 11 [some (.ref (adr X 3 0 0)), some (.ref (adr X 1 1 0))] [] (setR (setR σ0 1 1 h) 3 0 (tk t (n + 1))) (Ex (some (.int (tcS t h n).1)) (setR (setR σ0 1 1 (tcS t h n).2.2) 3 0 (tk t (tcS t h n).2.1))) := by
    intro b hlt
    refine T_aload_n dX2_tellCopies_11 rfl rfl ?_
    refine T_aload_n dX2_tellCopies_12 rfl rfl ?_
    refine T_g3F hv3 4 (by decide) fl_X2_26 rfl dX2_tellCopies_13 ?_
    refine T_aload_n dX2_tellCopies_16 rfl rfl ?_
    refine T_g3F hv3 5 (by decide) fl_X2_29 rfl dX2_tellCopies_17 ?_
    refine T_iconst (v := nI 1) dX2_tellCopies_20 rfl ?_
    refine T_isub dX2_tellCopies_21 ?_
    rw [tk_05, pk_sub (a := n + 1) (b := 1) (Nat.succ_le_succ (Nat.zero_le n)), Nat.add_sub_cancel]
    refine T_ialdF (hv3 _ (by decide)) rfl (Nat.le_of_ble_eq_true rfl) _ (by omega) rfl dX2_tellCopies_22 ?_
    refine T_p1S hv1 0 (by decide) rfl rfl fl_X2_62 (by decide) rfl dX2_tellCopies_23 ?_
    refine T_aload_n dX2_tellCopies_26 rfl rfl ?_
    refine T_iconst (v := nI 4) dX2_tellCopies_27 rfl ?_
    refine T_vi (Rc_of (hv3 0 (by decide)) rfl rfl) (k_X2_passKind hv3 (by omega)) ml_X2_47 im_yX2_passKind se_RX2_yX2_passKind ini_RX2 co_yX2_passKind rfl de_X2_passKind (by decide) (by decide) rfl (Nat.le_of_ble_eq_true rfl) dX2_tellCopies_28 ?_
    by_cases h4 : t 2 (n + 1) = nI 4
    · rw [if_pos h4, if_pos h4]
      refine T_zret (ty := .boolean) rfl (by decide) dX2_tellCopies_31 ?_
      exact ⟨by rw [tcS, if_pos b, if_pos h4], by rw [tcS, if_pos b, if_pos h4]; rfl⟩
    · rw [if_neg h4, if_neg h4]
      refine T_zret (ty := .boolean) rfl (by decide) dX2_tellCopies_31 ?_
      exact ⟨by rw [tcS, if_pos b, if_neg h4], by rw [tcS, if_pos b, if_neg h4]; rfl⟩
  refine T_aload_n dX2_tellCopies_0 rfl rfl ?_
  refine T_iconst (v := nI 2) dX2_tellCopies_1 rfl ?_
  refine T_iconst (v := nI 4) dX2_tellCopies_2 rfl ?_
  refine T_vi (Rc_of (hv3 0 (by decide)) rfl rfl) (k_X2_passNumber hv3 (by omega)) ml_X2_58 im_yX2_passNumber se_RX2_yX2_passNumber ini_RX2 co_yX2_passNumber rfl de_X2_passNumber (by decide) (by decide) rfl (Nat.le_of_ble_eq_true rfl) dX2_tellCopies_3 ?_
  refine T_if_ne 11 dX2_tellCopies_6 (by decide) (fun h6 => ?_) (fun h6 => ?_)
  · have b := b01_1 h6
    have hlt := tok_lt hE hn b.1 ne03
    rw [if_pos b]
    exact h11 b hlt
  · refine T_iconst (v := nI 0) dX2_tellCopies_9 rfl ?_
    refine T_zret (ty := .boolean) rfl (by decide) dX2_tellCopies_10 ?_
    have b := b01_0 h6
    exact ⟨by rw [tcS, if_neg b], by rw [tcS, if_neg b, if_neg b]⟩
set_option maxHeartbeats 4000000 in
set_option maxRecDepth 100000 in
theorem k_X2_tellBounds {X : Cx} {l : Launch} {σ0 : Hp} {t h : Rg} {n N : Nat} (hv3 : Lv X 3 0) (hv1 : Lv X 1 1) (hE : t 2 N = nI 0) (hN : N ≤ 80) (hn : n ≤ N) (hw : Wf h) : Con X l yX2_tellBounds cX2_tellBounds 3 (some .boolean) 1 [.ref (adr X 3 0 0), .ref (adr X 1 1 0)] (setR (setR σ0 1 1 h) 3 0 (tk t n)) (Ex (some (.int (tbS t h n).1)) (setR (setR σ0 1 1 (tbS t h n).2.2) 3 0 (tk t (tbS t h n).2.1))) := by
  refine Con_of [some (.ref (adr X 3 0 0)), some (.ref (adr X 1 1 0)), none] (by decide) rfl (Nat.le_of_ble_eq_true rfl) ?_
  have h56 : pN t n (nI 0) (h 0 0 - nI 1) → pN t (n + 1) (nI 0) (nI 99) → pN t (n + 2) (nI 0) (nI 9) → pN t (n + 3) (nI 0) (nI 99) → n + 4 ≤ N → T X l yX2_tellBounds cX2_tellBounds 3 (some .boolean) 1 56 [some (.ref (adr X 3 0 0)), some (.ref (adr X 1 1 0)), some (.int (nI 1))] [] (setR (setR σ0 1 1 h) 3 0 (tk t (n + 4))) (Ex (some (.int (tbS t h n).1)) (setR (setR σ0 1 1 (tbS t h n).2.2) 3 0 (tk t (tbS t h n).2.1))) := by
    intro b0 b1 b2 b3 hlt
    have hc4 := hw.2.2.1
    have hc2 := hw.2.1
    obtain ⟨j, hj4, hj⟩ : ∃ j, j < 4 ∧ t 4 n = nI j := by
      obtain ⟨j, hj, e⟩ := nI_of2 (M := h 0 0 - nI 1) (n := nC h - 1) (by rw [hw.1, pk_sub (by omega), nI_toInt (by omega)]) b0.2.1 b0.2.2
      exact ⟨j, by omega, e⟩
    have hj2 : (t 4 n).toNatClampNeg = j := by rw [hj, nI_clamp (by omega)]
    refine T_aload_n dX2_tellBounds_56 rfl rfl ?_
    refine T_aload_n dX2_tellBounds_57 rfl rfl ?_
    refine T_g3F hv3 4 (by decide) fl_X2_26 rfl dX2_tellBounds_58 ?_
    refine T_aload_n dX2_tellBounds_61 rfl rfl ?_
    refine T_g3F hv3 5 (by decide) fl_X2_29 rfl dX2_tellBounds_62 ?_
    refine T_iconst (v := nI 4) dX2_tellBounds_65 rfl ?_
    refine T_isub dX2_tellBounds_66 ?_
    rw [tk_05, pk_sub (a := n + 4) (b := 4) (by omega), show n + 4 - 4 = n by omega]
    refine T_ialdF (hv3 _ (by decide)) rfl (Nat.le_of_ble_eq_true rfl) n (by omega) rfl dX2_tellBounds_67 ?_
    show T X l yX2_tellBounds cX2_tellBounds 3 (some .boolean) 1 68 [some (.ref (adr X 3 0 0)), some (.ref (adr X 1 1 0)), some (.int (nI 1))] [.int (t 4 n), .ref (adr X 1 1 0)] (setR (setR σ0 1 1 h) 3 0 (tk t (n + 4))) (Ex (some (.int (tbS t h n).1)) (setR (setR σ0 1 1 (tbS t h n).2.2) 3 0 (tk t (tbS t h n).2.1)))
    rw [hj]
    refine T_aload_n dX2_tellBounds_68 rfl rfl ?_
    refine T_g3F hv3 4 (by decide) fl_X2_26 rfl dX2_tellBounds_69 ?_
    refine T_aload_n dX2_tellBounds_72 rfl rfl ?_
    refine T_g3F hv3 5 (by decide) fl_X2_29 rfl dX2_tellBounds_73 ?_
    refine T_iconst (v := nI 3) dX2_tellBounds_76 rfl ?_
    refine T_isub dX2_tellBounds_77 ?_
    rw [tk_05, pk_sub (a := n + 4) (b := 3) (by omega), show n + 4 - 3 = n + 1 by omega]
    refine T_ialdF (hv3 _ (by decide)) rfl (Nat.le_of_ble_eq_true rfl) _ (by omega) rfl dX2_tellBounds_78 ?_
    refine T_aload_n dX2_tellBounds_79 rfl rfl ?_
    refine T_g3F hv3 4 (by decide) fl_X2_26 rfl dX2_tellBounds_80 ?_
    refine T_aload_n dX2_tellBounds_83 rfl rfl ?_
    refine T_g3F hv3 5 (by decide) fl_X2_29 rfl dX2_tellBounds_84 ?_
    refine T_iconst (v := nI 2) dX2_tellBounds_87 rfl ?_
    refine T_isub dX2_tellBounds_88 ?_
    rw [tk_05, pk_sub (a := n + 4) (b := 2) (by omega), show n + 4 - 2 = n + 2 by omega]
    refine T_ialdF (hv3 _ (by decide)) rfl (Nat.le_of_ble_eq_true rfl) _ (by omega) rfl dX2_tellBounds_89 ?_
    refine T_aload_n dX2_tellBounds_90 rfl rfl ?_
    refine T_g3F hv3 4 (by decide) fl_X2_26 rfl dX2_tellBounds_91 ?_
    refine T_aload_n dX2_tellBounds_94 rfl rfl ?_
    refine T_g3F hv3 5 (by decide) fl_X2_29 rfl dX2_tellBounds_95 ?_
    refine T_iconst (v := nI 1) dX2_tellBounds_98 rfl ?_
    refine T_isub dX2_tellBounds_99 ?_
    rw [tk_05, pk_sub (a := n + 4) (b := 1) (by omega), show n + 4 - 1 = n + 3 by omega]
    refine T_ialdF (hv3 _ (by decide)) rfl (Nat.le_of_ble_eq_true rfl) _ (by omega) rfl dX2_tellBounds_100 ?_
    refine T_vv (Rc_of (hv1 0 (by decide)) rfl rfl) (con_s2 (k_X1_setBounds hv1 hj4)) ml_X2_65 im_yX1_setBounds se_RX1_yX1_setBounds ini_RX1 co_yX1_setBounds rfl de_X1_setBounds (by decide) (by decide) rfl (Nat.le_of_ble_eq_true rfl) dX2_tellBounds_101 ?_
    refine T_aload_n dX2_tellBounds_104 rfl rfl ?_
    refine T_iconst (v := nI 4) dX2_tellBounds_105 rfl ?_
    refine T_vi (Rc_of (hv3 0 (by decide)) rfl rfl) (k_X2_passKind hv3 (by omega)) ml_X2_47 im_yX2_passKind se_RX2_yX2_passKind ini_RX2 co_yX2_passKind rfl de_X2_passKind (by decide) (by decide) rfl (Nat.le_of_ble_eq_true rfl) dX2_tellBounds_106 ?_
    by_cases h4 : t 2 (n + 4) = nI 4
    · rw [if_pos h4, if_pos h4]
      refine T_zret (ty := .boolean) rfl (by decide) dX2_tellBounds_109 ?_
      exact ⟨by rw [tbS, if_pos b0, if_pos b1, if_pos b2, if_pos b3, if_pos h4], by rw [tbS, if_pos b0, if_pos b1, if_pos b2, if_pos b3, if_pos h4, hj2]; rfl⟩
    · rw [if_neg h4, if_neg h4]
      refine T_zret (ty := .boolean) rfl (by decide) dX2_tellBounds_109 ?_
      exact ⟨by rw [tbS, if_pos b0, if_pos b1, if_pos b2, if_pos b3, if_neg h4], by rw [tbS, if_pos b0, if_pos b1, if_pos b2, if_pos b3, if_neg h4, hj2]; rfl⟩
  refine T_aload_n dX2_tellBounds_0 rfl rfl ?_
  refine T_iconst (v := nI 0) dX2_tellBounds_1 rfl ?_
  refine T_aload_n dX2_tellBounds_2 rfl rfl ?_
  refine T_g1S hv1 0 (by decide) fl_X2_62 rfl dX2_tellBounds_3 ?_
  refine T_iconst (v := nI 1) dX2_tellBounds_6 rfl ?_
  refine T_isub dX2_tellBounds_7 ?_
  refine T_vi (Rc_of (hv3 0 (by decide)) rfl rfl) (k_X2_passNumber hv3 (by omega)) ml_X2_58 im_yX2_passNumber se_RX2_yX2_passNumber ini_RX2 co_yX2_passNumber rfl de_X2_passNumber (by decide) (by decide) rfl (Nat.le_of_ble_eq_true rfl) dX2_tellBounds_8 ?_
  refine T_if_eq 48 dX2_tellBounds_11 (by decide) (fun h11 => ?_) (fun h11 => ?_)
  · try (have b0 := b01_0 h11; rw [if_neg b0])
    try (have b1 := b01_0 h21; rw [if_neg b1])
    try (have b2 := b01_0 h31; rw [if_neg b2])
    try (have b3 := b01_0 h41; rw [if_neg b3])
    refine T_iconst (v := nI 0) dX2_tellBounds_48 rfl ?_
    refine T_istore2 dX2_tellBounds_49 rfl (by decide) ?_
    refine T_iload_n dX2_tellBounds_50 rfl rfl ?_
    refine T_if_ne 56 dX2_tellBounds_51 (by decide) (fun h51 => ?_) (fun h51 => ?_)
    · first | exact (nope0 h51).elim | exact h56 b0 b1 b2 b3 (by omega)
    · refine T_iconst (v := nI 0) dX2_tellBounds_54 rfl ?_
      refine T_zret (ty := .boolean) rfl (by decide) dX2_tellBounds_55 ?_
      first | exact (nope1 h51).elim | (refine ⟨?_, ?_⟩ <;> rw [tbS, if_neg b0]) | (refine ⟨?_, ?_⟩ <;> rw [tbS, if_pos b0, if_neg b1]) | (refine ⟨?_, ?_⟩ <;> rw [tbS, if_pos b0, if_pos b1, if_neg b2]) | (refine ⟨?_, ?_⟩ <;> rw [tbS, if_pos b0, if_pos b1, if_pos b2, if_neg b3])
  · have b0 := b01_1 h11
    rw [if_pos b0]
    have hl0 := tok_lt hE hn b0.1 ne03
    refine T_aload_n dX2_tellBounds_14 rfl rfl ?_
    refine T_iconst (v := nI 0) dX2_tellBounds_15 rfl ?_
    refine T_bipush (v := nI 99) dX2_tellBounds_16 (by decide) ?_
    refine T_vi (Rc_of (hv3 0 (by decide)) rfl rfl) (k_X2_passNumber hv3 (by omega)) ml_X2_58 im_yX2_passNumber se_RX2_yX2_passNumber ini_RX2 co_yX2_passNumber rfl de_X2_passNumber (by decide) (by decide) rfl (Nat.le_of_ble_eq_true rfl) dX2_tellBounds_18 ?_
    refine T_if_eq 48 dX2_tellBounds_21 (by decide) (fun h21 => ?_) (fun h21 => ?_)
    · try (have b0 := b01_0 h11; rw [if_neg b0])
      try (have b1 := b01_0 h21; rw [if_neg b1])
      try (have b2 := b01_0 h31; rw [if_neg b2])
      try (have b3 := b01_0 h41; rw [if_neg b3])
      refine T_iconst (v := nI 0) dX2_tellBounds_48 rfl ?_
      refine T_istore2 dX2_tellBounds_49 rfl (by decide) ?_
      refine T_iload_n dX2_tellBounds_50 rfl rfl ?_
      refine T_if_ne 56 dX2_tellBounds_51 (by decide) (fun h51 => ?_) (fun h51 => ?_)
      · first | exact (nope0 h51).elim | exact h56 b0 b1 b2 b3 (by omega)
      · refine T_iconst (v := nI 0) dX2_tellBounds_54 rfl ?_
        refine T_zret (ty := .boolean) rfl (by decide) dX2_tellBounds_55 ?_
        first | exact (nope1 h51).elim | (refine ⟨?_, ?_⟩ <;> rw [tbS, if_neg b0]) | (refine ⟨?_, ?_⟩ <;> rw [tbS, if_pos b0, if_neg b1]) | (refine ⟨?_, ?_⟩ <;> rw [tbS, if_pos b0, if_pos b1, if_neg b2]) | (refine ⟨?_, ?_⟩ <;> rw [tbS, if_pos b0, if_pos b1, if_pos b2, if_neg b3])
    · have b1 := b01_1 h21
      rw [if_pos b1]
      have hl1 := tok_lt hE (show n + 1 ≤ N by omega) b1.1 ne03
      refine T_aload_n dX2_tellBounds_24 rfl rfl ?_
      refine T_iconst (v := nI 0) dX2_tellBounds_25 rfl ?_
      refine T_bipush (v := nI 9) dX2_tellBounds_26 (by decide) ?_
      refine T_vi (Rc_of (hv3 0 (by decide)) rfl rfl) (k_X2_passNumber hv3 (by omega)) ml_X2_58 im_yX2_passNumber se_RX2_yX2_passNumber ini_RX2 co_yX2_passNumber rfl de_X2_passNumber (by decide) (by decide) rfl (Nat.le_of_ble_eq_true rfl) dX2_tellBounds_28 ?_
      refine T_if_eq 48 dX2_tellBounds_31 (by decide) (fun h31 => ?_) (fun h31 => ?_)
      · try (have b0 := b01_0 h11; rw [if_neg b0])
        try (have b1 := b01_0 h21; rw [if_neg b1])
        try (have b2 := b01_0 h31; rw [if_neg b2])
        try (have b3 := b01_0 h41; rw [if_neg b3])
        refine T_iconst (v := nI 0) dX2_tellBounds_48 rfl ?_
        refine T_istore2 dX2_tellBounds_49 rfl (by decide) ?_
        refine T_iload_n dX2_tellBounds_50 rfl rfl ?_
        refine T_if_ne 56 dX2_tellBounds_51 (by decide) (fun h51 => ?_) (fun h51 => ?_)
        · first | exact (nope0 h51).elim | exact h56 b0 b1 b2 b3 (by omega)
        · refine T_iconst (v := nI 0) dX2_tellBounds_54 rfl ?_
          refine T_zret (ty := .boolean) rfl (by decide) dX2_tellBounds_55 ?_
          first | exact (nope1 h51).elim | (refine ⟨?_, ?_⟩ <;> rw [tbS, if_neg b0]) | (refine ⟨?_, ?_⟩ <;> rw [tbS, if_pos b0, if_neg b1]) | (refine ⟨?_, ?_⟩ <;> rw [tbS, if_pos b0, if_pos b1, if_neg b2]) | (refine ⟨?_, ?_⟩ <;> rw [tbS, if_pos b0, if_pos b1, if_pos b2, if_neg b3])
      · have b2 := b01_1 h31
        rw [if_pos b2]
        have hl2 := tok_lt hE (show n + 2 ≤ N by omega) b2.1 ne03
        refine T_aload_n dX2_tellBounds_34 rfl rfl ?_
        refine T_iconst (v := nI 0) dX2_tellBounds_35 rfl ?_
        refine T_bipush (v := nI 99) dX2_tellBounds_36 (by decide) ?_
        refine T_vi (Rc_of (hv3 0 (by decide)) rfl rfl) (k_X2_passNumber hv3 (by omega)) ml_X2_58 im_yX2_passNumber se_RX2_yX2_passNumber ini_RX2 co_yX2_passNumber rfl de_X2_passNumber (by decide) (by decide) rfl (Nat.le_of_ble_eq_true rfl) dX2_tellBounds_38 ?_
        refine T_if_eq 48 dX2_tellBounds_41 (by decide) (fun h41 => ?_) (fun h41 => ?_)
        · try (have b0 := b01_0 h11; rw [if_neg b0])
          try (have b1 := b01_0 h21; rw [if_neg b1])
          try (have b2 := b01_0 h31; rw [if_neg b2])
          try (have b3 := b01_0 h41; rw [if_neg b3])
          refine T_iconst (v := nI 0) dX2_tellBounds_48 rfl ?_
          refine T_istore2 dX2_tellBounds_49 rfl (by decide) ?_
          refine T_iload_n dX2_tellBounds_50 rfl rfl ?_
          refine T_if_ne 56 dX2_tellBounds_51 (by decide) (fun h51 => ?_) (fun h51 => ?_)
          · first | exact (nope0 h51).elim | exact h56 b0 b1 b2 b3 (by omega)
          · refine T_iconst (v := nI 0) dX2_tellBounds_54 rfl ?_
            refine T_zret (ty := .boolean) rfl (by decide) dX2_tellBounds_55 ?_
            first | exact (nope1 h51).elim | (refine ⟨?_, ?_⟩ <;> rw [tbS, if_neg b0]) | (refine ⟨?_, ?_⟩ <;> rw [tbS, if_pos b0, if_neg b1]) | (refine ⟨?_, ?_⟩ <;> rw [tbS, if_pos b0, if_pos b1, if_neg b2]) | (refine ⟨?_, ?_⟩ <;> rw [tbS, if_pos b0, if_pos b1, if_pos b2, if_neg b3])
        · have b3 := b01_1 h41
          rw [if_pos b3]
          have hl3 := tok_lt hE (show n + 3 ≤ N by omega) b3.1 ne03
          refine T_iconst (v := nI 1) dX2_tellBounds_44 rfl ?_
          refine T_goto 49 dX2_tellBounds_45 (by decide) ?_
          refine T_istore2 dX2_tellBounds_49 rfl (by decide) ?_
          refine T_iload_n dX2_tellBounds_50 rfl rfl ?_
          refine T_if_ne 56 dX2_tellBounds_51 (by decide) (fun h51 => ?_) (fun h51 => ?_)
          · first | exact (nope0 h51).elim | exact h56 b0 b1 b2 b3 (by omega)
          · refine T_iconst (v := nI 0) dX2_tellBounds_54 rfl ?_
            refine T_zret (ty := .boolean) rfl (by decide) dX2_tellBounds_55 ?_
            first | exact (nope1 h51).elim | (refine ⟨?_, ?_⟩ <;> rw [tbS, if_neg b0]) | (refine ⟨?_, ?_⟩ <;> rw [tbS, if_pos b0, if_neg b1]) | (refine ⟨?_, ?_⟩ <;> rw [tbS, if_pos b0, if_pos b1, if_neg b2]) | (refine ⟨?_, ?_⟩ <;> rw [tbS, if_pos b0, if_pos b1, if_pos b2, if_neg b3])
end
section
theorem tcS_b (t h : Rg) (n : Nat) : (tcS t h n).1 = nI 0 ∨ (tcS t h n).1 = nI 1 := by
  unfold tcS
  split
  · split
    · exact Or.inr rfl
    · exact Or.inl rfl
  · exact Or.inl rfl
theorem tbS_b (t h : Rg) (n : Nat) : (tbS t h n).1 = nI 0 ∨ (tbS t h n).1 = nI 1 := by
  unfold tbS
  split
  · split
    · split
      · split
        · split
          · exact Or.inr rfl
          · exact Or.inl rfl
        · exact Or.inl rfl
      · exact Or.inl rfl
    · exact Or.inl rfl
  · exact Or.inl rfl
theorem nar01 {x : Int32} (h : x = nI 0 ∨ x = nI 1) : narrow .boolean (.int x) = .int x := by
  rcases h with h | h <;> rw [h] <;> decide
theorem newS_W (h : Rg) : Wf (newS h) ∧ nC (newS h) = 3 ∧ nW (newS h) = 0 := by
  have e0 : newS h 0 0 = nI 3 := rfl
  have e2 : newS h 0 2 = nI 0 := rfl
  have c0 : nC (newS h) = 3 := by unfold nC; rw [e0, nI_clamp (by decide)]
  have c2 : nW (newS h) = 0 := by unfold nW; rw [e2, nI_clamp (by decide)]
  exact ⟨⟨by rw [c0, e0], by rw [c0]; decide, by rw [c0]; decide, by rw [c2, e2], by rw [c2]; decide⟩, c0, c2⟩
theorem Wf_put {h : Rg} (hw : Wf h) {c : Nat} (h2 : 2 ≤ c) (h4 : c ≤ 4) : Wf (up2 h 0 0 (nI c)) ∧ nC (up2 h 0 0 (nI c)) = c := by
  have e0 : up2 h 0 0 (nI c) 0 0 = nI c := rfl
  have e2 : up2 h 0 0 (nI c) 0 2 = h 0 2 := rfl
  have c0 : nC (up2 h 0 0 (nI c)) = c := by unfold nC; rw [e0, nI_clamp (by omega)]
  have c2 : nW (up2 h 0 0 (nI c)) = nW h := by unfold nW; rw [e2]
  exact ⟨⟨by rw [c0, e0], by rw [c0]; exact h2, by rw [c0]; exact h4, by rw [c2, e2]; exact hw.2.2.2.1, by rw [c2]; exact hw.2.2.2.2⟩, c0⟩
/-- a number that passes lies in its bounds -/
theorem pN_in {t : Rg} {n a b : Nat} (ha : a < 2 ^ 31) (hb : b < 2 ^ 31) (h : pN t n (nI a) (nI b)) : ∃ j, a ≤ j ∧ j ≤ b ∧ t 4 n = nI j := by
  have e0 : (0 : Int32).toInt = 0 := rfl
  have h1 := h.2.1
  rw [Int32.lt_iff_toInt_lt, nI_toInt ha] at h1
  have h0 : ¬ t 4 n < 0 := fun q => by rw [Int32.lt_iff_toInt_lt, e0] at q; omega
  obtain ⟨j, hj, e⟩ := nI_of2 (nI_toInt hb) h0 h.2.2
  rw [e, nI_toInt (by omega)] at h1
  exact ⟨j, by omega, hj, e⟩
theorem tcS_ok {t h : Rg} {n N : Nat} (hE : t 2 N = nI 0) (hn : n ≤ N) (hw : Wf h) (hk : ¬ (tcS t h n).1 = 0) : n < (tcS t h n).2.1 ∧ (tcS t h n).2.1 ≤ N ∧ Wf (tcS t h n).2.2 := by
  unfold tcS at hk ⊢
  split
  · rename_i b
    rw [if_pos b] at hk
    split
    · rename_i h4
      have h1 := tok_lt hE hn b.1 ne03
      have h2 := tok_lt hE (show n + 1 ≤ N by omega) h4 ne04
      obtain ⟨j, j1, j2, e⟩ := pN_in (by decide) (by decide) b
      refine ⟨by show n < n + 2; omega, by show n + 2 ≤ N; omega, ?_⟩
      show Wf (up2 h 0 0 (t 4 n))
      rw [e]
      exact (Wf_put hw j1 j2).1
    · rename_i h4
      rw [if_neg h4] at hk
      exact absurd rfl hk
  · rename_i b
    rw [if_neg b] at hk
    exact absurd rfl hk
theorem tbS_ok {t h : Rg} {n N : Nat} (hE : t 2 N = nI 0) (hn : n ≤ N) (hw : Wf h) (hk : ¬ (tbS t h n).1 = 0) : n < (tbS t h n).2.1 ∧ (tbS t h n).2.1 ≤ N ∧ Wf (tbS t h n).2.2 := by
  unfold tbS at hk ⊢
  by_cases b0 : pN t n (nI 0) (h 0 0 - nI 1)
  · rw [if_pos b0] at hk ⊢
    by_cases b1 : pN t (n + 1) (nI 0) (nI 99)
    · rw [if_pos b1] at hk ⊢
      by_cases b2 : pN t (n + 2) (nI 0) (nI 9)
      · rw [if_pos b2] at hk ⊢
        by_cases b3 : pN t (n + 3) (nI 0) (nI 99)
        · rw [if_pos b3] at hk ⊢
          by_cases h4 : t 2 (n + 4) = nI 4
          · rw [if_pos h4]
            have l0 := tok_lt hE hn b0.1 ne03
            have l1 := tok_lt hE (show n + 1 ≤ N by omega) b1.1 ne03
            have l2 := tok_lt hE (show n + 2 ≤ N by omega) b2.1 ne03
            have l3 := tok_lt hE (show n + 3 ≤ N by omega) b3.1 ne03
            have l4 := tok_lt hE (show n + 4 ≤ N by omega) h4 ne04
            exact ⟨by show n < n + 5; omega, by show n + 5 ≤ N; omega, hw.congr rfl⟩
          · rw [if_neg h4] at hk; exact absurd rfl hk
        · rw [if_neg b3] at hk; exact absurd rfl hk
      · rw [if_neg b2] at hk; exact absurd rfl hk
    · rw [if_neg b1] at hk; exact absurd rfl hk
  · rw [if_neg b0] at hk; exact absurd rfl hk
theorem tiS_ok {t h : Rg} {n N : Nat} {b : Int32} (hE : t 2 N = nI 0) (hn : n ≤ N) (hw : Wf h) (hk : ¬ (tiS t h n b).1 = 0) : n < (tiS t h n b).2.1 ∧ (tiS t h n b).2.1 ≤ N ∧ Wf (tiS t h n b).2.2 := by
  unfold tiS at hk ⊢
  split
  · rename_i c
    rw [if_pos c] at hk
    have l := tok_lt hE hn c.2 ne01
    have r := tcS_ok hE (show n + 1 ≤ N by omega) hw hk
    exact ⟨by omega, r.2.1, r.2.2⟩
  · rename_i c
    rw [if_neg c] at hk
    split
    · rename_i d
      rw [if_pos d] at hk
      have l := tok_lt hE hn d ne02
      have r := tbS_ok hE (show n + 1 ≤ N by omega) hw hk
      exact ⟨by omega, r.2.1, r.2.2⟩
    · rename_i d
      rw [if_neg d] at hk
      exact absurd rfl hk
/-- the token at which it ends or can't go on is there -/
theorem tcS_le {t h : Rg} {n N : Nat} (hE : t 2 N = nI 0) (hn : n ≤ N) : (tcS t h n).2.1 ≤ N := by
  unfold tcS
  split
  · rename_i b
    have h1 := tok_lt hE hn b.1 ne03
    split
    · rename_i h4
      have h2 := tok_lt hE (show n + 1 ≤ N by omega) h4 ne04
      show n + 2 ≤ N; omega
    · show n + 1 ≤ N; omega
  · exact hn
theorem tbS_le {t h : Rg} {n N : Nat} (hE : t 2 N = nI 0) (hn : n ≤ N) : (tbS t h n).2.1 ≤ N := by
  unfold tbS
  by_cases b0 : pN t n (nI 0) (h 0 0 - nI 1)
  · have l0 := tok_lt hE hn b0.1 ne03
    rw [if_pos b0]
    by_cases b1 : pN t (n + 1) (nI 0) (nI 99)
    · have l1 := tok_lt hE (show n + 1 ≤ N by omega) b1.1 ne03
      rw [if_pos b1]
      by_cases b2 : pN t (n + 2) (nI 0) (nI 9)
      · have l2 := tok_lt hE (show n + 2 ≤ N by omega) b2.1 ne03
        rw [if_pos b2]
        by_cases b3 : pN t (n + 3) (nI 0) (nI 99)
        · have l3 := tok_lt hE (show n + 3 ≤ N by omega) b3.1 ne03
          rw [if_pos b3]
          by_cases h4 : t 2 (n + 4) = nI 4
          · rw [if_pos h4]
            have l4 := tok_lt hE (show n + 4 ≤ N by omega) h4 ne04
            show n + 5 ≤ N; omega
          · rw [if_neg h4]; show n + 4 ≤ N; omega
        · rw [if_neg b3]; show n + 3 ≤ N; omega
      · rw [if_neg b2]; show n + 2 ≤ N; omega
    · rw [if_neg b1]; show n + 1 ≤ N; omega
  · rw [if_neg b0]; exact hn
theorem tiS_le {t h : Rg} {n N : Nat} {b : Int32} (hE : t 2 N = nI 0) (hn : n ≤ N) : (tiS t h n b).2.1 ≤ N := by
  unfold tiS
  split
  · rename_i c
    have l := tok_lt hE hn c.2 ne01
    exact tcS_le hE (by omega)
  · split
    · rename_i d
      have l := tok_lt hE hn d ne02
      exact tbS_le hE (by omega)
    · exact hn
theorem ftS_le {len : Nat} : ∀ (n : Nat) (t : Rg) (f p : Nat), f ≤ p → p ≤ len → (ftS len n t f p).2 ≤ len
  | 0, t, f, p, h1, h2 => by rw [ftS]; omega
  | n + 1, t, f, p, h1, h2 => by
    rw [ftS]
    split
    · rename_i hp
      have hg := tkE_gt (t 1) hp
      split
      · exact ftS_le n _ _ _ (by omega) (by omega)
      · exact ftS_le n _ _ _ (by omega) (by omega)
    · show f ≤ len; omega
theorem tok_ne {u : Rg} {n N : Nat} (hE : u 2 N = nI 0) (hn : n ≤ N) (hz : ¬ u 2 n = nI 0) : n < N := by
  rcases Nat.lt_or_ge n N with q | q
  · exact q
  · have e : n = N := by omega
    rw [e] at hz
    exact absurd hE hz
theorem finS_end (t : Rg) (len : Nat) : finS t len 2 (ftS len (len + 1) t 0 0).2 = nI 0 := by
  show upd _ _ _ _ = _
  unfold upd
  rw [if_pos rfl]
set_option maxHeartbeats 4000000 in
set_option maxRecDepth 100000 in
theorem k_X2_tellItem {X : Cx} {l : Launch} {σ0 : Hp} {t h : Rg} {n N : Nat} {b : Int32} (hv3 : Lv X 3 0) (hv1 : Lv X 1 1) (hE : t 2 N = nI 0) (hN : N ≤ 80) (hn : n ≤ N) (hw : Wf h) : Con X l yX2_tellItem cX2_tellItem 3 (some .boolean) 2 [.ref (adr X 3 0 0), .ref (adr X 1 1 0), .int b] (setR (setR σ0 1 1 h) 3 0 (tk t n)) (Ex (some (.int (tiS t h n b).1)) (setR (setR σ0 1 1 (tiS t h n b).2.2) 3 0 (tk t (tiS t h n b).2.1))) := by
  refine Con_of [some (.ref (adr X 3 0 0)), some (.ref (adr X 1 1 0)), some (.int b)] (by decide) rfl (Nat.le_of_ble_eq_true rfl) ?_
  have h18 : ¬ (¬ b = 0 ∧ t 2 n = nI 1) → T X l yX2_tellItem cX2_tellItem 3 (some .boolean) 2 18 [some (.ref (adr X 3 0 0)), some (.ref (adr X 1 1 0)), some (.int b)] [] (setR (setR σ0 1 1 h) 3 0 (tk t n)) (Ex (some (.int (tiS t h n b).1)) (setR (setR σ0 1 1 (tiS t h n b).2.2) 3 0 (tk t (tiS t h n b).2.1))) := by
    intro hc
    refine T_aload_n dX2_tellItem_18 rfl rfl ?_
    refine T_iconst (v := nI 2) dX2_tellItem_19 rfl ?_
    refine T_vi (Rc_of (hv3 0 (by decide)) rfl rfl) (k_X2_passKind hv3 (by omega)) ml_X2_47 im_yX2_passKind se_RX2_yX2_passKind ini_RX2 co_yX2_passKind rfl de_X2_passKind (by decide) (by decide) rfl (Nat.le_of_ble_eq_true rfl) dX2_tellItem_20 ?_
    refine T_if_eq 38 dX2_tellItem_23 (by decide) (fun h23 => ?_) (fun h23 => ?_)
    · refine T_iconst (v := nI 0) dX2_tellItem_38 rfl ?_
      refine T_zret (ty := .boolean) rfl (by decide) dX2_tellItem_39 ?_
      first | (refine ⟨?_, ?_⟩; rw [tiS, if_neg hc, if_pos b2, h31]; rfl; rw [tiS, if_neg hc, if_pos b2]) | (refine ⟨?_, ?_⟩; rw [tiS, if_neg hc, if_pos b2, (tbS_b t h (n + 1)).resolve_left h31]; rw [tiS, if_neg hc, if_pos b2]) | (have b2 := b01_0 h23; refine ⟨?_, ?_⟩; rw [tiS, if_neg hc, if_neg b2]; rw [tiS, if_neg hc, if_neg b2, if_neg b2])
    · have b2 := b01_1 h23
      have l2 := tok_lt hE hn b2 ne02
      rw [if_pos b2]
      refine T_aload_n dX2_tellItem_26 rfl rfl ?_
      refine T_aload_n dX2_tellItem_27 rfl rfl ?_
      refine T_vi (Rc_of (hv3 0 (by decide)) rfl rfl) (k_X2_tellBounds hv3 hv1 hE hN (by omega) hw) ml_X2_55 im_yX2_tellBounds se_RX2_yX2_tellBounds ini_RX2 co_yX2_tellBounds rfl de_X2_tellBounds (by decide) (by decide) rfl (Nat.le_of_ble_eq_true rfl) dX2_tellItem_28 ?_
      refine T_if_eq 38 dX2_tellItem_31 (by decide) (fun h31 => ?_) (fun h31 => ?_)
      · refine T_iconst (v := nI 0) dX2_tellItem_38 rfl ?_
        refine T_zret (ty := .boolean) rfl (by decide) dX2_tellItem_39 ?_
        first | (refine ⟨?_, ?_⟩; rw [tiS, if_neg hc, if_pos b2, h31]; rfl; rw [tiS, if_neg hc, if_pos b2]) | (refine ⟨?_, ?_⟩; rw [tiS, if_neg hc, if_pos b2, (tbS_b t h (n + 1)).resolve_left h31]; rw [tiS, if_neg hc, if_pos b2]) | (have b2 := b01_0 h23; refine ⟨?_, ?_⟩; rw [tiS, if_neg hc, if_neg b2]; rw [tiS, if_neg hc, if_neg b2, if_neg b2])
      · refine T_iconst (v := nI 1) dX2_tellItem_34 rfl ?_
        refine T_goto 39 dX2_tellItem_35 (by decide) ?_
        refine T_zret (ty := .boolean) rfl (by decide) dX2_tellItem_39 ?_
        first | (refine ⟨?_, ?_⟩; rw [tiS, if_neg hc, if_pos b2, h31]; rfl; rw [tiS, if_neg hc, if_pos b2]) | (refine ⟨?_, ?_⟩; rw [tiS, if_neg hc, if_pos b2, (tbS_b t h (n + 1)).resolve_left h31]; rw [tiS, if_neg hc, if_pos b2]) | (have b2 := b01_0 h23; refine ⟨?_, ?_⟩; rw [tiS, if_neg hc, if_neg b2]; rw [tiS, if_neg hc, if_neg b2, if_neg b2])
  refine T_iload_n dX2_tellItem_0 rfl rfl ?_
  refine T_if_eq 18 dX2_tellItem_1 (by decide) (fun h1 => ?_) (fun h1 => ?_)
  · first | (exact h18 (fun q => q.1 h1)) | (have b1 := b01_0 h9; rw [if_neg b1]; exact h18 (fun q => b1 q.2))
  · refine T_aload_n dX2_tellItem_4 rfl rfl ?_
    refine T_iconst (v := nI 1) dX2_tellItem_5 rfl ?_
    refine T_vi (Rc_of (hv3 0 (by decide)) rfl rfl) (k_X2_passKind hv3 (by omega)) ml_X2_47 im_yX2_passKind se_RX2_yX2_passKind ini_RX2 co_yX2_passKind rfl de_X2_passKind (by decide) (by decide) rfl (Nat.le_of_ble_eq_true rfl) dX2_tellItem_6 ?_
    refine T_if_eq 18 dX2_tellItem_9 (by decide) (fun h9 => ?_) (fun h9 => ?_)
    · first | (exact h18 (fun q => q.1 h1)) | (have b1 := b01_0 h9; rw [if_neg b1]; exact h18 (fun q => b1 q.2))
    · have b1 := b01_1 h9
      have l1 := tok_lt hE hn b1 ne01
      rw [if_pos b1]
      refine T_aload_n dX2_tellItem_12 rfl rfl ?_
      refine T_aload_n dX2_tellItem_13 rfl rfl ?_
      refine T_vi (Rc_of (hv3 0 (by decide)) rfl rfl) (k_X2_tellCopies hv3 hv1 hE hN (by omega)) ml_X2_51 im_yX2_tellCopies se_RX2_yX2_tellCopies ini_RX2 co_yX2_tellCopies rfl de_X2_tellCopies (by decide) (by decide) rfl (Nat.le_of_ble_eq_true rfl) dX2_tellItem_14 ?_
      refine T_zret (ty := .boolean) rfl (nar01 (tcS_b _ _ _)) dX2_tellItem_17 ?_
      exact ⟨by rw [tiS, if_pos ⟨h1, b1⟩], by rw [tiS, if_pos ⟨h1, b1⟩]⟩
set_option maxHeartbeats 4000000 in
set_option maxRecDepth 100000 in
theorem k_X2_tellInto {X : Cx} {l : Launch} {σ0 : Hp} {t h : Rg} {len : Nat} (hv3 : Lv X 3 0) (hv1 : Lv X 1 1) (hl : t 0 1 = nI len) (hl8 : len ≤ 80) : Con X l yX2_tellInto cX2_tellInto 3 (some .int) 8 [.ref (adr X 3 0 0), .ref (adr X 1 1 0)] (setR (setR σ0 1 1 h) 3 0 t) (Ex (some (.int (plS (finS t len) 82 0 (newS h) 0).1)) (setR (setR σ0 1 1 (plS (finS t len) 82 0 (newS h) 0).2.2) 3 0 (tk (finS t len) (plS (finS t len) 82 0 (newS h) 0).2.1))) := by
  refine Con_of [some (.ref (adr X 3 0 0)), some (.ref (adr X 1 1 0)), none] (by decide) rfl (Nat.le_of_ble_eq_true rfl) ?_
  obtain ⟨R, hR⟩ : ∃ R, R = (plS (finS t len) 82 0 (newS h) 0) := ⟨_, rfl⟩
  rw [← hR]
  have hE := finS_end t len
  have hN0 := ftS_le (len + 1) t 0 0 (Nat.le_refl _) (Nat.zero_le len)
  generalize (ftS len (len + 1) t 0 0).2 = N at hE hN0
  have hN : N ≤ 80 := by omega
  generalize hT : finS t len = u at hE hR
  have hlp : ∀ (f n k : Nat) (h2 : Rg), N - n < f → n ≤ N → k ≤ n → Wf h2 → R = plS u f n h2 k → T X l yX2_tellInto cX2_tellInto 3 (some .int) 8 15 [some (.ref (adr X 3 0 0)), some (.ref (adr X 1 1 0)), some (.int (nI k))] [] (setR (setR σ0 1 1 h2) 3 0 (tk u n)) (Ex (some (.int R.1)) (setR (setR σ0 1 1 R.2.2) 3 0 (tk u R.2.1))) := by
    intro f
    induction f with
    | zero => intro n k h2 h1; omega
    | succ f ih =>
      intro n k h2 h1 hn hkn hw2 hr
      rw [plS] at hr
      refine T_aload_n dX2_tellInto_15 rfl rfl ?_
      refine T_g3F hv3 2 (by decide) fl_X2_19 rfl dX2_tellInto_16 ?_
      refine T_aload_n dX2_tellInto_19 rfl rfl ?_
      refine T_g3F hv3 5 (by decide) fl_X2_29 rfl dX2_tellInto_20 ?_
      refine T_ialdF (hv3 _ (by decide)) rfl (Nat.le_of_ble_eq_true rfl) (n) (by omega) (rfl) dX2_tellInto_23 ?_
      refine T_if_eq 69 dX2_tellInto_24 (by decide) (fun h24 => ?_) (fun h24 => ?_)
      · refine T_aload_n dX2_tellInto_69 rfl rfl ?_
        refine T_vv (Rc_of (hv1 0 (by decide)) rfl rfl) (con_s2 (k_X1_splitAllNumbers hv1 hw2)) ml_X2_44 im_yX1_splitAllNumbers se_RX1_yX1_splitAllNumbers ini_RX1 co_yX1_splitAllNumbers rfl de_X1_splitAllNumbers (by decide) (by decide) rfl (Nat.le_of_ble_eq_true rfl) dX2_tellInto_70 ?_
        refine T_iload_n dX2_tellInto_73 rfl rfl ?_
        refine T_iret rfl dX2_tellInto_74 ?_
        have hz : u 2 n = nI 0 := h24
        rw [if_pos hz] at hr
        exact ⟨by rw [hr], by rw [hr]⟩
      · have hz : ¬ u 2 n = nI 0 := h24
        rw [if_neg hz] at hr
        have hlt : n < N := tok_ne hE hn hz
        refine T_iload_n dX2_tellInto_27 rfl rfl ?_
        refine T_bipush (v := nI 80) dX2_tellInto_28 (by decide) ?_
        refine T_icmp_ge 69 dX2_tellInto_30 (by decide) (fun h30 => (absurd h30 (nI_ge (show k < 80 by omega) (by omega)))) (fun h30 => ?_)
        refine T_aload_n dX2_tellInto_33 rfl rfl ?_
        refine T_aload_n dX2_tellInto_34 rfl rfl ?_
        refine T_iload_n dX2_tellInto_35 rfl rfl ?_
        refine T_if_ne 43 dX2_tellInto_36 (by decide) (fun h36 => ?_) (fun h36 => ?_)
        · have hfb : fB k = nI 0 := if_neg (fun e => h36 (congrArg nI e))
          rw [hfb] at hr
          refine T_iconst (v := nI 0) dX2_tellInto_43 rfl ?_
          refine T_vi (Rc_of (hv3 0 (by decide)) rfl rfl) (k_X2_tellItem hv3 hv1 hE hN hn hw2) ml_X2_40 im_yX2_tellItem se_RX2_yX2_tellItem ini_RX2 co_yX2_tellItem rfl de_X2_tellItem (by decide) (by decide) rfl (Nat.le_of_ble_eq_true rfl) dX2_tellInto_44 ?_
          refine T_if_ne 63 dX2_tellInto_47 (by decide) (fun h47 => ?_) (fun h47 => ?_)
          · rw [if_neg h47] at hr
            have hok := tiS_ok hE hn hw2 h47
            first | refine T_iincN2 dX2_tellInto_63 rfl (by decide) ?_ | refine T_iinc2 dX2_tellInto_63 rfl rfl (by decide) ?_
            refine T_goto 15 dX2_tellInto_66 (by decide) ?_
            exact ih _ _ _ (by omega) hok.2.1 (by omega) hok.2.2 hr
          · rw [if_pos h47] at hr
            refine T_bipush (v := -10) dX2_tellInto_50 (by decide) ?_
            refine T_aload_n dX2_tellInto_52 rfl rfl ?_
            refine T_g3F hv3 3 (by decide) fl_X2_23 rfl dX2_tellInto_53 ?_
            refine T_aload_n dX2_tellInto_56 rfl rfl ?_
            refine T_g3F hv3 5 (by decide) fl_X2_29 rfl dX2_tellInto_57 ?_
            refine T_ialdF (hv3 _ (by decide)) rfl (Nat.le_of_ble_eq_true rfl) _ (Nat.lt_of_le_of_lt (tiS_le hE hn) (by omega)) rfl dX2_tellInto_60 ?_
            refine T_isub dX2_tellInto_61 ?_
            refine T_iret rfl dX2_tellInto_62 ?_
            exact ⟨by rw [hr]; rfl, by rw [hr]⟩
        · have hk0 : k = 0 := nIe h36 (by omega) (by decide)
          have hfb : fB k = nI 1 := if_pos hk0
          rw [hfb] at hr
          refine T_iconst (v := nI 1) dX2_tellInto_39 rfl ?_
          refine T_goto 44 dX2_tellInto_40 (by decide) ?_
          refine T_vi (Rc_of (hv3 0 (by decide)) rfl rfl) (k_X2_tellItem hv3 hv1 hE hN hn hw2) ml_X2_40 im_yX2_tellItem se_RX2_yX2_tellItem ini_RX2 co_yX2_tellItem rfl de_X2_tellItem (by decide) (by decide) rfl (Nat.le_of_ble_eq_true rfl) dX2_tellInto_44 ?_
          refine T_if_ne 63 dX2_tellInto_47 (by decide) (fun h47 => ?_) (fun h47 => ?_)
          · rw [if_neg h47] at hr
            have hok := tiS_ok hE hn hw2 h47
            first | refine T_iincN2 dX2_tellInto_63 rfl (by decide) ?_ | refine T_iinc2 dX2_tellInto_63 rfl rfl (by decide) ?_
            refine T_goto 15 dX2_tellInto_66 (by decide) ?_
            exact ih _ _ _ (by omega) hok.2.1 (by omega) hok.2.2 hr
          · rw [if_pos h47] at hr
            refine T_bipush (v := -10) dX2_tellInto_50 (by decide) ?_
            refine T_aload_n dX2_tellInto_52 rfl rfl ?_
            refine T_g3F hv3 3 (by decide) fl_X2_23 rfl dX2_tellInto_53 ?_
            refine T_aload_n dX2_tellInto_56 rfl rfl ?_
            refine T_g3F hv3 5 (by decide) fl_X2_29 rfl dX2_tellInto_57 ?_
            refine T_ialdF (hv3 _ (by decide)) rfl (Nat.le_of_ble_eq_true rfl) _ (Nat.lt_of_le_of_lt (tiS_le hE hn) (by omega)) rfl dX2_tellInto_60 ?_
            refine T_isub dX2_tellInto_61 ?_
            refine T_iret rfl dX2_tellInto_62 ?_
            exact ⟨by rw [hr]; rfl, by rw [hr]⟩
  refine T_aload_n dX2_tellInto_0 rfl rfl ?_
  refine T_vv (Rc_of (hv3 0 (by decide)) rfl rfl) (k_X2_findTokens hv3 hl hl8) ml_X2_32 im_yX2_findTokens se_RX2_yX2_findTokens ini_RX2 co_yX2_findTokens rfl de_X2_findTokens (by decide) (by decide) rfl (Nat.le_of_ble_eq_true rfl) dX2_tellInto_1 ?_
  refine T_aload_n dX2_tellInto_4 rfl rfl ?_
  refine T_vv (Rc_of (hv1 0 (by decide)) rfl rfl) (con_s2 (k_X1_startAnew hv1)) ml_X2_35 im_yX1_startAnew se_RX1_yX1_startAnew ini_RX1 co_yX1_startAnew rfl de_X1_startAnew (by decide) (by decide) rfl (Nat.le_of_ble_eq_true rfl) dX2_tellInto_5 ?_
  refine T_aload_n dX2_tellInto_8 rfl rfl ?_
  refine T_iconst (v := nI 0) dX2_tellInto_9 rfl ?_
  refine T_p3F hv3 5 (by decide) rfl rfl fl_X2_29 (by decide) rfl dX2_tellInto_10 ?_
  refine T_iconst (v := nI 0) dX2_tellInto_13 rfl ?_
  refine T_istore2 dX2_tellInto_14 rfl (by decide) ?_
  rw [hT]
  exact hlp 82 0 0 (newS h) (by omega) (Nat.zero_le _) (Nat.le_refl _) (newS_W h).1 hR
end
