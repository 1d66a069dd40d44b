-- ===== PART A: goes FIRST, ahead of the names: the tables' words, and 'selects' of the private methods out of them =====
/-- a private method of a class that the tables say can be made, by its rows of tables_1 -/
def lw_okq (q : MethodName × Nat) : Prop := (q.1.cls ≠ "java/lang/invoke/MethodHandle" ∧ q.1.cls ≠ "java/lang/invoke/VarHandle") ∧ Cond.instantiable q.1.cls q.2 ∈ tables_1 ∧ Cond.privateMethod q.1 ∈ tables_1 ∧ Cond.instanceMethod q.1 ∈ tables_1
theorem lw_p0 : lw_okq (⟨"StaleBounds", "isCopy", "(I)Z"⟩, 10) := ⟨⟨by decide +kernel, by decide +kernel⟩, List.mem_of_getElem? (i := 15) (by decide +kernel), List.mem_of_getElem? (i := 331) (by decide +kernel), List.mem_of_getElem? (i := 332) (by decide +kernel)⟩
theorem lw_p1 : lw_okq (⟨"StaleBounds", "arePair", "(II)Z"⟩, 10) := ⟨⟨by decide +kernel, by decide +kernel⟩, List.mem_of_getElem? (i := 15) (by decide +kernel), List.mem_of_getElem? (i := 374) (by decide +kernel), List.mem_of_getElem? (i := 375) (by decide +kernel)⟩
theorem lw_p2 : lw_okq (⟨"StaleBounds", "answerOf", "(II)I"⟩, 10) := ⟨⟨by decide +kernel, by decide +kernel⟩, List.mem_of_getElem? (i := 15) (by decide +kernel), List.mem_of_getElem? (i := 447) (by decide +kernel), List.mem_of_getElem? (i := 448) (by decide +kernel)⟩
theorem lw_p3 : lw_okq (⟨"StaleBounds", "fitsAllSeen", "(I)Z"⟩, 10) := ⟨⟨by decide +kernel, by decide +kernel⟩, List.mem_of_getElem? (i := 15) (by decide +kernel), List.mem_of_getElem? (i := 503) (by decide +kernel), List.mem_of_getElem? (i := 504) (by decide +kernel)⟩
theorem lw_p4 : lw_okq (⟨"StaleBounds", "mostAlike", "(II)I"⟩, 10) := ⟨⟨by decide +kernel, by decide +kernel⟩, List.mem_of_getElem? (i := 15) (by decide +kernel), List.mem_of_getElem? (i := 512) (by decide +kernel), List.mem_of_getElem? (i := 513) (by decide +kernel)⟩
theorem lw_p5 : lw_okq (⟨"StaleBounds", "alikeWith", "(II)I"⟩, 10) := ⟨⟨by decide +kernel, by decide +kernel⟩, List.mem_of_getElem? (i := 15) (by decide +kernel), List.mem_of_getElem? (i := 517) (by decide +kernel), List.mem_of_getElem? (i := 518) (by decide +kernel)⟩
theorem lw_p6 : lw_okq (⟨"StaleBoundsModel", "beginRead", "()V"⟩, 17) := ⟨⟨by decide +kernel, by decide +kernel⟩, List.mem_of_getElem? (i := 540) (by decide +kernel), List.mem_of_getElem? (i := 546) (by decide +kernel), List.mem_of_getElem? (i := 547) (by decide +kernel)⟩
theorem lw_p7 : lw_okq (⟨"StaleBoundsModel", "parse", "()I"⟩, 17) := ⟨⟨by decide +kernel, by decide +kernel⟩, List.mem_of_getElem? (i := 540) (by decide +kernel), List.mem_of_getElem? (i := 626) (by decide +kernel), List.mem_of_getElem? (i := 627) (by decide +kernel)⟩
theorem lw_p8 : lw_okq (⟨"StaleBoundsModel", "next", "()V"⟩, 17) := ⟨⟨by decide +kernel, by decide +kernel⟩, List.mem_of_getElem? (i := 540) (by decide +kernel), List.mem_of_getElem? (i := 630) (by decide +kernel), List.mem_of_getElem? (i := 631) (by decide +kernel)⟩
theorem lw_p9 : lw_okq (⟨"StaleBoundsModel", "isLetter", "()Z"⟩, 17) := ⟨⟨by decide +kernel, by decide +kernel⟩, List.mem_of_getElem? (i := 540) (by decide +kernel), List.mem_of_getElem? (i := 634) (by decide +kernel), List.mem_of_getElem? (i := 635) (by decide +kernel)⟩
theorem lw_p10 : lw_okq (⟨"StaleBoundsModel", "wordToken", "()I"⟩, 17) := ⟨⟨by decide +kernel, by decide +kernel⟩, List.mem_of_getElem? (i := 540) (by decide +kernel), List.mem_of_getElem? (i := 638) (by decide +kernel), List.mem_of_getElem? (i := 639) (by decide +kernel)⟩
theorem lw_p11 : lw_okq (⟨"StaleBoundsModel", "isDigit", "()Z"⟩, 17) := ⟨⟨by decide +kernel, by decide +kernel⟩, List.mem_of_getElem? (i := 540) (by decide +kernel), List.mem_of_getElem? (i := 646) (by decide +kernel), List.mem_of_getElem? (i := 647) (by decide +kernel)⟩
theorem lw_p12 : lw_okq (⟨"StaleBoundsModel", "readItem", "(Z)Z"⟩, 17) := ⟨⟨by decide +kernel, by decide +kernel⟩, List.mem_of_getElem? (i := 540) (by decide +kernel), List.mem_of_getElem? (i := 650) (by decide +kernel), List.mem_of_getElem? (i := 651) (by decide +kernel)⟩
theorem lw_p13 : lw_okq (⟨"StaleBoundsModel", "readNumber", "(II)Z"⟩, 17) := ⟨⟨by decide +kernel, by decide +kernel⟩, List.mem_of_getElem? (i := 540) (by decide +kernel), List.mem_of_getElem? (i := 654) (by decide +kernel), List.mem_of_getElem? (i := 655) (by decide +kernel)⟩
theorem lw_p14 : lw_okq (⟨"StaleBoundsModel", "readBounds", "()Z"⟩, 17) := ⟨⟨by decide +kernel, by decide +kernel⟩, List.mem_of_getElem? (i := 540) (by decide +kernel), List.mem_of_getElem? (i := 658) (by decide +kernel), List.mem_of_getElem? (i := 659) (by decide +kernel)⟩
theorem lw_p15 : lw_okq (⟨"StaleBoundsModel", "save", "()V"⟩, 17) := ⟨⟨by decide +kernel, by decide +kernel⟩, List.mem_of_getElem? (i := 540) (by decide +kernel), List.mem_of_getElem? (i := 662) (by decide +kernel), List.mem_of_getElem? (i := 663) (by decide +kernel)⟩
def lw_privs_1 : List (MethodName × Nat) := [(⟨"StaleBounds", "isCopy", "(I)Z"⟩, 10), (⟨"StaleBounds", "arePair", "(II)Z"⟩, 10), (⟨"StaleBounds", "answerOf", "(II)I"⟩, 10), (⟨"StaleBounds", "fitsAllSeen", "(I)Z"⟩, 10), (⟨"StaleBounds", "mostAlike", "(II)I"⟩, 10), (⟨"StaleBounds", "alikeWith", "(II)I"⟩, 10), (⟨"StaleBoundsModel", "beginRead", "()V"⟩, 17), (⟨"StaleBoundsModel", "parse", "()I"⟩, 17), (⟨"StaleBoundsModel", "next", "()V"⟩, 17), (⟨"StaleBoundsModel", "isLetter", "()Z"⟩, 17), (⟨"StaleBoundsModel", "wordToken", "()I"⟩, 17), (⟨"StaleBoundsModel", "isDigit", "()Z"⟩, 17), (⟨"StaleBoundsModel", "readItem", "(Z)Z"⟩, 17), (⟨"StaleBoundsModel", "readNumber", "(II)Z"⟩, 17), (⟨"StaleBoundsModel", "readBounds", "()Z"⟩, 17), (⟨"StaleBoundsModel", "save", "()V"⟩, 17)]
theorem lw_r1 : ∀ q ∈ lw_privs_1, lw_okq q := List.forall_mem_cons.mpr ⟨lw_p0, List.forall_mem_cons.mpr ⟨lw_p1, List.forall_mem_cons.mpr ⟨lw_p2, List.forall_mem_cons.mpr ⟨lw_p3, List.forall_mem_cons.mpr ⟨lw_p4, List.forall_mem_cons.mpr ⟨lw_p5, List.forall_mem_cons.mpr ⟨lw_p6, List.forall_mem_cons.mpr ⟨lw_p7, List.forall_mem_cons.mpr ⟨lw_p8, List.forall_mem_cons.mpr ⟨lw_p9, List.forall_mem_cons.mpr ⟨lw_p10, List.forall_mem_cons.mpr ⟨lw_p11, List.forall_mem_cons.mpr ⟨lw_p12, List.forall_mem_cons.mpr ⟨lw_p13, List.forall_mem_cons.mpr ⟨lw_p14, List.forall_mem_cons.mpr ⟨lw_p15, fun _ h => absurd h List.not_mem_nil⟩⟩⟩⟩⟩⟩⟩⟩⟩⟩⟩⟩⟩⟩⟩⟩
theorem lw_p16 : lw_okq (⟨"StaleBoundsModel", "isCopy", "(I)Z"⟩, 17) := ⟨⟨by decide +kernel, by decide +kernel⟩, List.mem_of_getElem? (i := 540) (by decide +kernel), List.mem_of_getElem? (i := 670) (by decide +kernel), List.mem_of_getElem? (i := 671) (by decide +kernel)⟩
theorem lw_p17 : lw_okq (⟨"StaleBoundsModel", "keepZeroFast", "()V"⟩, 17) := ⟨⟨by decide +kernel, by decide +kernel⟩, List.mem_of_getElem? (i := 540) (by decide +kernel), List.mem_of_getElem? (i := 674) (by decide +kernel), List.mem_of_getElem? (i := 675) (by decide +kernel)⟩
theorem lw_p18 : lw_okq (⟨"StaleBoundsModel", "left", "(II)I"⟩, 17) := ⟨⟨by decide +kernel, by decide +kernel⟩, List.mem_of_getElem? (i := 540) (by decide +kernel), List.mem_of_getElem? (i := 678) (by decide +kernel), List.mem_of_getElem? (i := 679) (by decide +kernel)⟩
theorem lw_p19 : lw_okq (⟨"StaleBoundsModel", "budgetCell", "(II)I"⟩, 17) := ⟨⟨by decide +kernel, by decide +kernel⟩, List.mem_of_getElem? (i := 540) (by decide +kernel), List.mem_of_getElem? (i := 682) (by decide +kernel), List.mem_of_getElem? (i := 683) (by decide +kernel)⟩
theorem lw_p20 : lw_okq (⟨"StaleBoundsModel", "owed", "(II)I"⟩, 17) := ⟨⟨by decide +kernel, by decide +kernel⟩, List.mem_of_getElem? (i := 540) (by decide +kernel), List.mem_of_getElem? (i := 686) (by decide +kernel), List.mem_of_getElem? (i := 687) (by decide +kernel)⟩
theorem lw_p21 : lw_okq (⟨"StaleBoundsModel", "acceptedBy", "(I)I"⟩, 17) := ⟨⟨by decide +kernel, by decide +kernel⟩, List.mem_of_getElem? (i := 540) (by decide +kernel), List.mem_of_getElem? (i := 690) (by decide +kernel), List.mem_of_getElem? (i := 691) (by decide +kernel)⟩
theorem lw_p22 : lw_okq (⟨"StaleBoundsModel", "sumOf", "(I)I"⟩, 17) := ⟨⟨by decide +kernel, by decide +kernel⟩, List.mem_of_getElem? (i := 540) (by decide +kernel), List.mem_of_getElem? (i := 694) (by decide +kernel), List.mem_of_getElem? (i := 695) (by decide +kernel)⟩
theorem lw_p23 : lw_okq (⟨"StaleBoundsModel", "weight", "(I)I"⟩, 17) := ⟨⟨by decide +kernel, by decide +kernel⟩, List.mem_of_getElem? (i := 540) (by decide +kernel), List.mem_of_getElem? (i := 698) (by decide +kernel), List.mem_of_getElem? (i := 699) (by decide +kernel)⟩
theorem lw_p24 : lw_okq (⟨"StaleBoundsModel", "push", "(II)V"⟩, 17) := ⟨⟨by decide +kernel, by decide +kernel⟩, List.mem_of_getElem? (i := 540) (by decide +kernel), List.mem_of_getElem? (i := 702) (by decide +kernel), List.mem_of_getElem? (i := 703) (by decide +kernel)⟩
theorem lw_p25 : lw_okq (⟨"StaleBoundsModel", "heardCell", "(II)I"⟩, 17) := ⟨⟨by decide +kernel, by decide +kernel⟩, List.mem_of_getElem? (i := 540) (by decide +kernel), List.mem_of_getElem? (i := 706) (by decide +kernel), List.mem_of_getElem? (i := 707) (by decide +kernel)⟩
theorem lw_p26 : lw_okq (⟨"StaleBoundsModel", "arePair", "(II)Z"⟩, 17) := ⟨⟨by decide +kernel, by decide +kernel⟩, List.mem_of_getElem? (i := 540) (by decide +kernel), List.mem_of_getElem? (i := 718) (by decide +kernel), List.mem_of_getElem? (i := 719) (by decide +kernel)⟩
theorem lw_p27 : lw_okq (⟨"StaleBoundsModel", "pull", "(II)V"⟩, 17) := ⟨⟨by decide +kernel, by decide +kernel⟩, List.mem_of_getElem? (i := 540) (by decide +kernel), List.mem_of_getElem? (i := 725) (by decide +kernel), List.mem_of_getElem? (i := 726) (by decide +kernel)⟩
theorem lw_p28 : lw_okq (⟨"StaleBoundsModel", "readBy", "(I)I"⟩, 17) := ⟨⟨by decide +kernel, by decide +kernel⟩, List.mem_of_getElem? (i := 540) (by decide +kernel), List.mem_of_getElem? (i := 733) (by decide +kernel), List.mem_of_getElem? (i := 734) (by decide +kernel)⟩
theorem lw_p29 : lw_okq (⟨"StaleBoundsModel", "slowCount", "(I)I"⟩, 17) := ⟨⟨by decide +kernel, by decide +kernel⟩, List.mem_of_getElem? (i := 540) (by decide +kernel), List.mem_of_getElem? (i := 737) (by decide +kernel), List.mem_of_getElem? (i := 738) (by decide +kernel)⟩
theorem lw_p30 : lw_okq (⟨"StaleBoundsModel", "readCost", "(I)I"⟩, 17) := ⟨⟨by decide +kernel, by decide +kernel⟩, List.mem_of_getElem? (i := 540) (by decide +kernel), List.mem_of_getElem? (i := 761) (by decide +kernel), List.mem_of_getElem? (i := 762) (by decide +kernel)⟩
theorem lw_p31 : lw_okq (⟨"StaleBoundsModel", "spare", "(I)I"⟩, 17) := ⟨⟨by decide +kernel, by decide +kernel⟩, List.mem_of_getElem? (i := 540) (by decide +kernel), List.mem_of_getElem? (i := 765) (by decide +kernel), List.mem_of_getElem? (i := 766) (by decide +kernel)⟩
def lw_privs_2 : List (MethodName × Nat) := [(⟨"StaleBoundsModel", "isCopy", "(I)Z"⟩, 17), (⟨"StaleBoundsModel", "keepZeroFast", "()V"⟩, 17), (⟨"StaleBoundsModel", "left", "(II)I"⟩, 17), (⟨"StaleBoundsModel", "budgetCell", "(II)I"⟩, 17), (⟨"StaleBoundsModel", "owed", "(II)I"⟩, 17), (⟨"StaleBoundsModel", "acceptedBy", "(I)I"⟩, 17), (⟨"StaleBoundsModel", "sumOf", "(I)I"⟩, 17), (⟨"StaleBoundsModel", "weight", "(I)I"⟩, 17), (⟨"StaleBoundsModel", "push", "(II)V"⟩, 17), (⟨"StaleBoundsModel", "heardCell", "(II)I"⟩, 17), (⟨"StaleBoundsModel", "arePair", "(II)Z"⟩, 17), (⟨"StaleBoundsModel", "pull", "(II)V"⟩, 17), (⟨"StaleBoundsModel", "readBy", "(I)I"⟩, 17), (⟨"StaleBoundsModel", "slowCount", "(I)I"⟩, 17), (⟨"StaleBoundsModel", "readCost", "(I)I"⟩, 17), (⟨"StaleBoundsModel", "spare", "(I)I"⟩, 17)]
theorem lw_r2 : ∀ q ∈ lw_privs_2, lw_okq q := List.forall_mem_cons.mpr ⟨lw_p16, List.forall_mem_cons.mpr ⟨lw_p17, List.forall_mem_cons.mpr ⟨lw_p18, List.forall_mem_cons.mpr ⟨lw_p19, List.forall_mem_cons.mpr ⟨lw_p20, List.forall_mem_cons.mpr ⟨lw_p21, List.forall_mem_cons.mpr ⟨lw_p22, List.forall_mem_cons.mpr ⟨lw_p23, List.forall_mem_cons.mpr ⟨lw_p24, List.forall_mem_cons.mpr ⟨lw_p25, List.forall_mem_cons.mpr ⟨lw_p26, List.forall_mem_cons.mpr ⟨lw_p27, List.forall_mem_cons.mpr ⟨lw_p28, List.forall_mem_cons.mpr ⟨lw_p29, List.forall_mem_cons.mpr ⟨lw_p30, List.forall_mem_cons.mpr ⟨lw_p31, fun _ h => absurd h List.not_mem_nil⟩⟩⟩⟩⟩⟩⟩⟩⟩⟩⟩⟩⟩⟩⟩⟩
theorem lw_p32 : lw_okq (⟨"StaleBoundsModel", "holders", "(II)I"⟩, 17) := ⟨⟨by decide +kernel, by decide +kernel⟩, List.mem_of_getElem? (i := 540) (by decide +kernel), List.mem_of_getElem? (i := 777) (by decide +kernel), List.mem_of_getElem? (i := 778) (by decide +kernel)⟩
theorem lw_p33 : lw_okq (⟨"StaleBoundsModel", "candidates", "()I"⟩, 17) := ⟨⟨by decide +kernel, by decide +kernel⟩, List.mem_of_getElem? (i := 540) (by decide +kernel), List.mem_of_getElem? (i := 797) (by decide +kernel), List.mem_of_getElem? (i := 798) (by decide +kernel)⟩
theorem lw_p34 : lw_okq (⟨"StaleBoundsModel", "property", "(II)I"⟩, 17) := ⟨⟨by decide +kernel, by decide +kernel⟩, List.mem_of_getElem? (i := 540) (by decide +kernel), List.mem_of_getElem? (i := 801) (by decide +kernel), List.mem_of_getElem? (i := 802) (by decide +kernel)⟩
theorem lw_p35 : lw_okq (⟨"StaleBoundsModel", "largestGroup", "(II)I"⟩, 17) := ⟨⟨by decide +kernel, by decide +kernel⟩, List.mem_of_getElem? (i := 540) (by decide +kernel), List.mem_of_getElem? (i := 809) (by decide +kernel), List.mem_of_getElem? (i := 810) (by decide +kernel)⟩
theorem lw_p36 : lw_okq (⟨"StaleBoundsModel", "fullCopies", "()I"⟩, 17) := ⟨⟨by decide +kernel, by decide +kernel⟩, List.mem_of_getElem? (i := 540) (by decide +kernel), List.mem_of_getElem? (i := 825) (by decide +kernel), List.mem_of_getElem? (i := 826) (by decide +kernel)⟩
def lw_privs_3 : List (MethodName × Nat) := [(⟨"StaleBoundsModel", "holders", "(II)I"⟩, 17), (⟨"StaleBoundsModel", "candidates", "()I"⟩, 17), (⟨"StaleBoundsModel", "property", "(II)I"⟩, 17), (⟨"StaleBoundsModel", "largestGroup", "(II)I"⟩, 17), (⟨"StaleBoundsModel", "fullCopies", "()I"⟩, 17)]
theorem lw_r3 : ∀ q ∈ lw_privs_3, lw_okq q := List.forall_mem_cons.mpr ⟨lw_p32, List.forall_mem_cons.mpr ⟨lw_p33, List.forall_mem_cons.mpr ⟨lw_p34, List.forall_mem_cons.mpr ⟨lw_p35, List.forall_mem_cons.mpr ⟨lw_p36, fun _ h => absurd h List.not_mem_nil⟩⟩⟩⟩⟩
def lw_privs : List (MethodName × Nat) := lw_privs_1 ++ (lw_privs_2 ++ (lw_privs_3))
def lw_tbl : List Cond := k2_sels lw_privs ++ tables_1
theorem lw_privs_ok : ∀ q ∈ lw_privs, lw_okq q := by
  show ∀ q ∈ lw_privs_1 ++ (lw_privs_2 ++ (lw_privs_3)), lw_okq q
  exact List.forall_mem_append.mpr ⟨lw_r1, List.forall_mem_append.mpr ⟨lw_r2, lw_r3⟩⟩

theorem goodIn_r {big : List Cond} (ws : List Cond) (ps : List Nat) (hp : ws = ps.filterMap (fun i => big[i]?)) (h : ws.all goodWord = true) : GoodIn big ws := by
  intro w hw
  have h1 := List.all_eq_true.mp h w hw
  rw [hp] at hw
  obtain ⟨i, -, hi⟩ := List.mem_filterMap.mp hw
  have hm : w ∈ big := by first | exact List.mem_of_getElem? hi | exact List.getElem?_mem hi
  exact ⟨hm, good_of_word h1⟩
theorem goodIn_app {big a b : List Cond} (ha : GoodIn big a) (hb : GoodIn big b) : GoodIn big (a ++ b) := fun w h => (List.mem_append.mp h).elim (ha w) (hb w)
theorem goodIn_ca {big a b : List Cond} {c : Cond} (ha : GoodIn big (c :: a)) (hb : GoodIn big b) : GoodIn big (c :: (a ++ b)) := fun w h => (List.mem_cons.mp h).elim (fun e => ha w (List.mem_cons.mpr (Or.inl e))) (fun h => (List.mem_append.mp h).elim (fun h => ha w (List.mem_cons.mpr (Or.inr h))) (hb w))
theorem goodIn_sub {big ws : List Cond} (hm : ∀ w ∈ ws, w ∈ big) (h : ws.all goodWord = true) : GoodIn big ws := fun w hw => ⟨hm w hw, good_of_word (List.all_eq_true.mp h w hw)⟩
def RX0 : String := "StaleBounds$History"
def TX0 : u_T := fun k => match k with
  | 0 => ("StaleBounds$History", "earlier", "[LStaleBounds$Ledger;", true)
  | 1 => ("StaleBounds$History", "next", "I", false)
  | _ => ("StaleBounds$History", "known", "I", false)
def tyX0 : Nat → FieldType := fun k => match k with
  | 0 => .array (.object "StaleBounds$Ledger")
  | 1 => .int
  | _ => .int
abbrev wsX00 : List Cond := u_ws RX0 TX0 3
theorem nmX0 : ∀ a, a < 3 → ∀ b, b < 3 → a ≠ b → (TX0 a).2.1 ≠ (TX0 b).2.1 := by decide +kernel
theorem tyX0_ok : ∀ k, k < 3 → parseFieldDescriptor (TX0 k).2.2.1 = some (tyX0 k) := by decide +kernel
abbrev cX0_init : ByteArray := prog_2_method_1_code
def yX0_init : MethodName := ⟨RX0, "<init>", "()V"⟩
abbrev cX0_remember : ByteArray := prog_2_method_2_code
def yX0_remember : MethodName := ⟨RX0, "remember", "(LStaleBounds$Ledger;)V"⟩
abbrev cX0_lose : ByteArray := prog_2_method_3_code
def yX0_lose : MethodName := ⟨RX0, "lose", "()V"⟩
abbrev cX0_restore : ByteArray := prog_2_method_4_code
def yX0_restore : MethodName := ⟨RX0, "restore", "(LStaleBounds$Ledger;)V"⟩
def RX1 : String := "StaleBounds$Ledger"
def TX1 : u_T := fun k => match k with
  | 0 => ("StaleBounds$Ledger", "copies", "I", false)
  | 1 => ("StaleBounds$Ledger", "time", "I", false)
  | 2 => ("StaleBounds$Ledger", "writes", "I", false)
  | 3 => ("StaleBounds$Ledger", "number", "[I", true)
  | 4 => ("StaleBounds$Ledger", "order", "[I", true)
  | 5 => ("StaleBounds$Ledger", "age", "[I", true)
  | 6 => ("StaleBounds$Ledger", "knows", "[I", true)
  | 7 => ("StaleBounds$Ledger", "fast", "[I", true)
  | 8 => ("StaleBounds$Ledger", "heard", "[I", true)
  | 9 => ("StaleBounds$Ledger", "budget", "[I", true)
  | 10 => ("StaleBounds$Ledger", "acceptedBy", "[I", true)
  | 11 => ("StaleBounds$Ledger", "acceptedAt", "[I", true)
  | _ => ("StaleBounds$Ledger", "weight", "[I", true)
def tyX1 : Nat → FieldType := fun k => match k with
  | 0 => .int
  | 1 => .int
  | 2 => .int
  | 3 => .array .int
  | 4 => .array .int
  | 5 => .array .int
  | 6 => .array .int
  | 7 => .array .int
  | 8 => .array .int
  | 9 => .array .int
  | 10 => .array .int
  | 11 => .array .int
  | _ => .array .int
abbrev wsX10 : List Cond := u_ws RX1 TX1 13
theorem nmX1 : ∀ a, a < 13 → ∀ b, b < 13 → a ≠ b → (TX1 a).2.1 ≠ (TX1 b).2.1 := by decide +kernel
theorem tyX1_ok : ∀ k, k < 13 → parseFieldDescriptor (TX1 k).2.2.1 = some (tyX1 k) := by decide +kernel
abbrev cX1_init : ByteArray := prog_3_method_1_code
def yX1_init : MethodName := ⟨RX1, "<init>", "()V"⟩
abbrev cX1_startAnew : ByteArray := prog_3_method_2_code
def yX1_startAnew : MethodName := ⟨RX1, "startAnew", "()V"⟩
abbrev cX1_takeFrom : ByteArray := prog_3_method_3_code
def yX1_takeFrom : MethodName := ⟨RX1, "takeFrom", "(LStaleBounds$Ledger;)V"⟩
abbrev cX1_setBounds : ByteArray := prog_3_method_4_code
def yX1_setBounds : MethodName := ⟨RX1, "setBounds", "(IIII)V"⟩
abbrev cX1_isBound : ByteArray := prog_3_method_5_code
def yX1_isBound : MethodName := ⟨RX1, "isBound", "(IIII)Z"⟩
abbrev cX1_splitAllNumbers : ByteArray := prog_3_method_6_code
def yX1_splitAllNumbers : MethodName := ⟨RX1, "splitAllNumbers", "()V"⟩
abbrev cX1_splitNumber : ByteArray := prog_3_method_7_code
def yX1_splitNumber : MethodName := ⟨RX1, "splitNumber", "(I)V"⟩
abbrev cX1_shareOf : ByteArray := prog_3_method_8_code
def yX1_shareOf : MethodName := ⟨RX1, "shareOf", "(III)I"⟩
abbrev cX1_allWrites : ByteArray := prog_3_method_9_code
def yX1_allWrites : MethodName := ⟨RX1, "allWrites", "()I"⟩
abbrev cX1_weightOf : ByteArray := prog_3_method_10_code
def yX1_weightOf : MethodName := ⟨RX1, "weightOf", "(I)I"⟩
abbrev cX1_writesBy : ByteArray := prog_3_method_11_code
def yX1_writesBy : MethodName := ⟨RX1, "writesBy", "(I)I"⟩
abbrev cX1_sum : ByteArray := prog_3_method_12_code
def yX1_sum : MethodName := ⟨RX1, "sum", "(I)I"⟩
abbrev cX1_lack : ByteArray := prog_3_method_13_code
def yX1_lack : MethodName := ⟨RX1, "lack", "(I)I"⟩
abbrev cX1_slow : ByteArray := prog_3_method_14_code
def yX1_slow : MethodName := ⟨RX1, "slow", "(I)I"⟩
abbrev cX1_owed : ByteArray := prog_3_method_15_code
def yX1_owed : MethodName := ⟨RX1, "owed", "(II)I"⟩
abbrev cX1_left : ByteArray := prog_3_method_16_code
def yX1_left : MethodName := ⟨RX1, "left", "(II)I"⟩
abbrev cX1_spare : ByteArray := prog_3_method_17_code
def yX1_spare : MethodName := ⟨RX1, "spare", "(I)I"⟩
abbrev cX1_copiesWith : ByteArray := prog_3_method_18_code
def yX1_copiesWith : MethodName := ⟨RX1, "copiesWith", "([II)I"⟩
abbrev cX1_pushesFor : ByteArray := prog_3_method_19_code
def yX1_pushesFor : MethodName := ⟨RX1, "pushesFor", "(II)I"⟩
abbrev cX1_accept : ByteArray := prog_3_method_20_code
def yX1_accept : MethodName := ⟨RX1, "accept", "(II)I"⟩
abbrev cX1_pushIfOver : ByteArray := prog_3_method_21_code
def yX1_pushIfOver : MethodName := ⟨RX1, "pushIfOver", "(II)Z"⟩
abbrev cX1_learn : ByteArray := prog_3_method_22_code
def yX1_learn : MethodName := ⟨RX1, "learn", "(II)V"⟩
abbrev cX1_pull : ByteArray := prog_3_method_23_code
def yX1_pull : MethodName := ⟨RX1, "pull", "(II)V"⟩
abbrev cX1_read : ByteArray := prog_3_method_24_code
def yX1_read : MethodName := ⟨RX1, "read", "(I)I"⟩
abbrev cX1_move : ByteArray := prog_3_method_25_code
def yX1_move : MethodName := ⟨RX1, "move", "(IIII)I"⟩
abbrev cX1_even : ByteArray := prog_3_method_26_code
def yX1_even : MethodName := ⟨RX1, "even", "(I)I"⟩
abbrev cX1_bindAnew : ByteArray := prog_3_method_27_code
def yX1_bindAnew : MethodName := ⟨RX1, "bindAnew", "(IIII)I"⟩
def RX2 : String := "StaleBounds$Text"
def TX2 : u_T := fun k => match k with
  | 0 => ("StaleBounds$Text", "letters", "[C", true)
  | 1 => ("StaleBounds$Text", "length", "I", false)
  | 2 => ("StaleBounds$Text", "kinds", "[I", true)
  | 3 => ("StaleBounds$Text", "starts", "[I", true)
  | 4 => ("StaleBounds$Text", "values", "[I", true)
  | _ => ("StaleBounds$Text", "token", "I", false)
def tyX2 : Nat → FieldType := fun k => match k with
  | 0 => .array .char
  | 1 => .int
  | 2 => .array .int
  | 3 => .array .int
  | 4 => .array .int
  | _ => .int
abbrev wsX20 : List Cond := u_ws RX2 TX2 6
theorem nmX2 : ∀ a, a < 6 → ∀ b, b < 6 → a ≠ b → (TX2 a).2.1 ≠ (TX2 b).2.1 := by decide +kernel
theorem tyX2_ok : ∀ k, k < 6 → parseFieldDescriptor (TX2 k).2.2.1 = some (tyX2 k) := by decide +kernel
abbrev cX2_init : ByteArray := prog_4_method_1_code
def yX2_init : MethodName := ⟨RX2, "<init>", "()V"⟩
abbrev cX2_add : ByteArray := prog_4_method_2_code
def yX2_add : MethodName := ⟨RX2, "add", "(C)V"⟩
abbrev cX2_drop : ByteArray := prog_4_method_3_code
def yX2_drop : MethodName := ⟨RX2, "drop", "()I"⟩
abbrev cX2_tellInto : ByteArray := prog_4_method_4_code
def yX2_tellInto : MethodName := ⟨RX2, "tellInto", "(LStaleBounds$Ledger;)I"⟩
abbrev cX2_tellItem : ByteArray := prog_4_method_5_code
def yX2_tellItem : MethodName := ⟨RX2, "tellItem", "(LStaleBounds$Ledger;Z)Z"⟩
abbrev cX2_tellCopies : ByteArray := prog_4_method_6_code
def yX2_tellCopies : MethodName := ⟨RX2, "tellCopies", "(LStaleBounds$Ledger;)Z"⟩
abbrev cX2_tellBounds : ByteArray := prog_4_method_7_code
def yX2_tellBounds : MethodName := ⟨RX2, "tellBounds", "(LStaleBounds$Ledger;)Z"⟩
abbrev cX2_passKind : ByteArray := prog_4_method_8_code
def yX2_passKind : MethodName := ⟨RX2, "passKind", "(I)Z"⟩
abbrev cX2_passNumber : ByteArray := prog_4_method_9_code
def yX2_passNumber : MethodName := ⟨RX2, "passNumber", "(II)Z"⟩
abbrev cX2_findTokens : ByteArray := prog_4_method_10_code
def yX2_findTokens : MethodName := ⟨RX2, "findTokens", "()V"⟩
abbrev cX2_takeToken : ByteArray := prog_4_method_11_code
def yX2_takeToken : MethodName := ⟨RX2, "takeToken", "(II)I"⟩
abbrev cX2_takeWord : ByteArray := prog_4_method_12_code
def yX2_takeWord : MethodName := ⟨RX2, "takeWord", "(II)I"⟩
abbrev cX2_spells : ByteArray := prog_4_method_13_code
def yX2_spells : MethodName := ⟨RX2, "spells", "(Ljava/lang/String;II)Z"⟩
abbrev cX2_takeFigures : ByteArray := prog_4_method_14_code
def yX2_takeFigures : MethodName := ⟨RX2, "takeFigures", "(II)I"⟩
abbrev cX2_isSmallLetter : ByteArray := prog_4_method_15_code
def yX2_isSmallLetter : MethodName := ⟨RX2, "isSmallLetter", "(C)Z"⟩
abbrev cX2_isFigure : ByteArray := prog_4_method_16_code
def yX2_isFigure : MethodName := ⟨RX2, "isFigure", "(C)Z"⟩
def RX3 : String := "StaleBounds"
def TX3 : u_T := fun k => match k with
  | 0 => ("StaleBounds", "now", "LStaleBounds$Ledger;", true)
  | 1 => ("StaleBounds", "trial", "LStaleBounds$Ledger;", true)
  | 2 => ("StaleBounds", "history", "LStaleBounds$History;", true)
  | 3 => ("StaleBounds", "text", "LStaleBounds$Text;", true)
  | 4 => ("StaleBounds", "images", "[LStaleBounds$Ledger;", true)
  | 5 => ("StaleBounds", "kept", "[Z", true)
  | 6 => ("StaleBounds", "seenWhat", "[I", true)
  | 7 => ("StaleBounds", "seenNumber", "[I", true)
  | 8 => ("StaleBounds", "seen", "I", false)
  | _ => ("StaleBounds", "answers", "[I", true)
def tyX3 : Nat → FieldType := fun k => match k with
  | 0 => .object "StaleBounds$Ledger"
  | 1 => .object "StaleBounds$Ledger"
  | 2 => .object "StaleBounds$History"
  | 3 => .object "StaleBounds$Text"
  | 4 => .array (.object "StaleBounds$Ledger")
  | 5 => .array .boolean
  | 6 => .array .int
  | 7 => .array .int
  | 8 => .int
  | _ => .array .int
abbrev wsX30 : List Cond := u_ws RX3 TX3 10
theorem nmX3 : ∀ a, a < 10 → ∀ b, b < 10 → a ≠ b → (TX3 a).2.1 ≠ (TX3 b).2.1 := by decide +kernel
theorem tyX3_ok : ∀ k, k < 10 → parseFieldDescriptor (TX3 k).2.2.1 = some (tyX3 k) := by decide +kernel
abbrev cX3_init : ByteArray := prog_1_method_1_code
def yX3_init : MethodName := ⟨RX3, "<init>", "()V"⟩
abbrev cX3_type : ByteArray := prog_1_method_2_code
def yX3_type : MethodName := ⟨RX3, "type", "(I)I"⟩
abbrev cX3_clear : ByteArray := prog_1_method_3_code
def yX3_clear : MethodName := ⟨RX3, "clear", "()I"⟩
abbrev cX3_tells : ByteArray := prog_1_method_4_code
def yX3_tells : MethodName := ⟨RX3, "tells", "()I"⟩
abbrev cX3_accepts : ByteArray := prog_1_method_5_code
def yX3_accepts : MethodName := ⟨RX3, "accepts", "(II)I"⟩
abbrev cX3_passes : ByteArray := prog_1_method_6_code
def yX3_passes : MethodName := ⟨RX3, "passes", "(I)I"⟩
abbrev cX3_pulls : ByteArray := prog_1_method_7_code
def yX3_pulls : MethodName := ⟨RX3, "pulls", "(II)I"⟩
abbrev cX3_reads : ByteArray := prog_1_method_8_code
def yX3_reads : MethodName := ⟨RX3, "reads", "(I)I"⟩
abbrev cX3_moves : ByteArray := prog_1_method_9_code
def yX3_moves : MethodName := ⟨RX3, "moves", "(IIII)I"⟩
abbrev cX3_evens : ByteArray := prog_1_method_10_code
def yX3_evens : MethodName := ⟨RX3, "evens", "(I)I"⟩
abbrev cX3_bounds : ByteArray := prog_1_method_11_code
def yX3_bounds : MethodName := ⟨RX3, "bounds", "(IIII)I"⟩
abbrev cX3_undo : ByteArray := prog_1_method_12_code
def yX3_undo : MethodName := ⟨RX3, "undo", "()I"⟩
abbrev cX3_copy : ByteArray := prog_1_method_13_code
def yX3_copy : MethodName := ⟨RX3, "copy", "(II)I"⟩
abbrev cX3_pair : ByteArray := prog_1_method_14_code
def yX3_pair : MethodName := ⟨RX3, "pair", "(III)I"⟩
abbrev cX3_write : ByteArray := prog_1_method_15_code
def yX3_write : MethodName := ⟨RX3, "write", "(II)I"⟩
abbrev cX3_costs : ByteArray := prog_1_method_16_code
def yX3_costs : MethodName := ⟨RX3, "costs", "(II)I"⟩
abbrev cX3_sees : ByteArray := prog_1_method_17_code
def yX3_sees : MethodName := ⟨RX3, "sees", "(II)I"⟩
abbrev cX3_forget : ByteArray := prog_1_method_18_code
def yX3_forget : MethodName := ⟨RX3, "forget", "()I"⟩
abbrev cX3_which : ByteArray := prog_1_method_19_code
def yX3_which : MethodName := ⟨RX3, "which", "()I"⟩
abbrev cX3_ask : ByteArray := prog_1_method_20_code
def yX3_ask : MethodName := ⟨RX3, "ask", "()I"⟩
abbrev cX3_keep : ByteArray := prog_1_method_21_code
def yX3_keep : MethodName := ⟨RX3, "keep", "(I)I"⟩
abbrev cX3_back : ByteArray := prog_1_method_22_code
def yX3_back : MethodName := ⟨RX3, "back", "(I)I"⟩
abbrev cX3_count : ByteArray := prog_1_method_23_code
def yX3_count : MethodName := ⟨RX3, "count", "(I)I"⟩
abbrev cX3_isCopy : ByteArray := prog_1_method_24_code
def yX3_isCopy : MethodName := ⟨RX3, "isCopy", "(I)Z"⟩
abbrev cX3_arePair : ByteArray := prog_1_method_25_code
def yX3_arePair : MethodName := ⟨RX3, "arePair", "(II)Z"⟩
abbrev cX3_answerOf : ByteArray := prog_1_method_26_code
def yX3_answerOf : MethodName := ⟨RX3, "answerOf", "(II)I"⟩
abbrev cX3_fitsAllSeen : ByteArray := prog_1_method_27_code
def yX3_fitsAllSeen : MethodName := ⟨RX3, "fitsAllSeen", "(I)Z"⟩
abbrev cX3_mostAlike : ByteArray := prog_1_method_28_code
def yX3_mostAlike : MethodName := ⟨RX3, "mostAlike", "(II)I"⟩
abbrev cX3_alikeWith : ByteArray := prog_1_method_29_code
def yX3_alikeWith : MethodName := ⟨RX3, "alikeWith", "(II)I"⟩
abbrev cX3_hasBit : ByteArray := prog_1_method_30_code
def yX3_hasBit : MethodName := ⟨RX3, "hasBit", "(II)Z"⟩
abbrev cX3_slot : ByteArray := prog_1_method_31_code
def yX3_slot : MethodName := ⟨RX3, "slot", "(II)I"⟩
def RX4 : String := "StaleBoundsModel"
def TX4 : u_T := fun k => match k with
  | 0 => ("StaleBoundsModel", "now", "[I", true)
  | 1 => ("StaleBoundsModel", "read", "[I", true)
  | 2 => ("StaleBoundsModel", "saved", "[I", true)
  | 3 => ("StaleBoundsModel", "history", "[I", true)
  | 4 => ("StaleBoundsModel", "historySize", "I", false)
  | 5 => ("StaleBoundsModel", "images", "[I", true)
  | 6 => ("StaleBoundsModel", "hasImage", "[Z", true)
  | 7 => ("StaleBoundsModel", "text", "[I", true)
  | 8 => ("StaleBoundsModel", "length", "I", false)
  | 9 => ("StaleBoundsModel", "at", "I", false)
  | 10 => ("StaleBoundsModel", "token", "I", false)
  | 11 => ("StaleBoundsModel", "tokenAt", "I", false)
  | 12 => ("StaleBoundsModel", "value", "I", false)
  | 13 => ("StaleBoundsModel", "factKind", "[I", true)
  | 14 => ("StaleBoundsModel", "factValue", "[I", true)
  | 15 => ("StaleBoundsModel", "facts", "I", false)
  | _ => ("StaleBoundsModel", "items", "I", false)
def tyX4 : Nat → FieldType := fun k => match k with
  | 0 => .array .int
  | 1 => .array .int
  | 2 => .array .int
  | 3 => .array .int
  | 4 => .int
  | 5 => .array .int
  | 6 => .array .boolean
  | 7 => .array .int
  | 8 => .int
  | 9 => .int
  | 10 => .int
  | 11 => .int
  | 12 => .int
  | 13 => .array .int
  | 14 => .array .int
  | 15 => .int
  | _ => .int
abbrev wsX40 : List Cond := u_ws RX4 TX4 17
theorem nmX4 : ∀ a, a < 17 → ∀ b, b < 17 → a ≠ b → (TX4 a).2.1 ≠ (TX4 b).2.1 := by decide +kernel
theorem tyX4_ok : ∀ k, k < 17 → parseFieldDescriptor (TX4 k).2.2.1 = some (tyX4 k) := by decide +kernel
abbrev cX4_init : ByteArray := prog_6_method_1_code
def yX4_init : MethodName := ⟨RX4, "<init>", "()V"⟩
abbrev cX4_in : ByteArray := prog_6_method_2_code
def yX4_in : MethodName := ⟨RX4, "in", "(III)Z"⟩
abbrev cX4_copyState : ByteArray := prog_6_method_3_code
def yX4_copyState : MethodName := ⟨RX4, "copyState", "([II[II)V"⟩
abbrev cX4_save : ByteArray := prog_6_method_4_code
def yX4_save : MethodName := ⟨RX4, "save", "()V"⟩
abbrev cX4_beginRead : ByteArray := prog_6_method_5_code
def yX4_beginRead : MethodName := ⟨RX4, "beginRead", "()V"⟩
abbrev cX4_setBudgetsFor : ByteArray := prog_6_method_6_code
def yX4_setBudgetsFor : MethodName := ⟨RX4, "setBudgetsFor", "([II)V"⟩
abbrev cX4_setBudgets : ByteArray := prog_6_method_7_code
def yX4_setBudgets : MethodName := ⟨RX4, "setBudgets", "([I)V"⟩
abbrev cX4_isLetter : ByteArray := prog_6_method_8_code
def yX4_isLetter : MethodName := ⟨RX4, "isLetter", "()Z"⟩
abbrev cX4_isDigit : ByteArray := prog_6_method_9_code
def yX4_isDigit : MethodName := ⟨RX4, "isDigit", "()Z"⟩
abbrev cX4_wordToken : ByteArray := prog_6_method_10_code
def yX4_wordToken : MethodName := ⟨RX4, "wordToken", "()I"⟩
abbrev cX4_next : ByteArray := prog_6_method_11_code
def yX4_next : MethodName := ⟨RX4, "next", "()V"⟩
abbrev cX4_readNumber : ByteArray := prog_6_method_12_code
def yX4_readNumber : MethodName := ⟨RX4, "readNumber", "(II)Z"⟩
abbrev cX4_readBounds : ByteArray := prog_6_method_13_code
def yX4_readBounds : MethodName := ⟨RX4, "readBounds", "()Z"⟩
abbrev cX4_readItem : ByteArray := prog_6_method_14_code
def yX4_readItem : MethodName := ⟨RX4, "readItem", "(Z)Z"⟩
abbrev cX4_parse : ByteArray := prog_6_method_15_code
def yX4_parse : MethodName := ⟨RX4, "parse", "()I"⟩
abbrev cX4_type : ByteArray := prog_6_method_16_code
def yX4_type : MethodName := ⟨RX4, "type", "(I)I"⟩
abbrev cX4_clear : ByteArray := prog_6_method_17_code
def yX4_clear : MethodName := ⟨RX4, "clear", "()I"⟩
abbrev cX4_tells : ByteArray := prog_6_method_18_code
def yX4_tells : MethodName := ⟨RX4, "tells", "()I"⟩
abbrev cX4_isCopy : ByteArray := prog_6_method_19_code
def yX4_isCopy : MethodName := ⟨RX4, "isCopy", "(I)Z"⟩
abbrev cX4_arePair : ByteArray := prog_6_method_20_code
def yX4_arePair : MethodName := ⟨RX4, "arePair", "(II)Z"⟩
abbrev cX4_weight : ByteArray := prog_6_method_21_code
def yX4_weight : MethodName := ⟨RX4, "weight", "(I)I"⟩
abbrev cX4_countBits : ByteArray := prog_6_method_22_code
def yX4_countBits : MethodName := ⟨RX4, "countBits", "(I)I"⟩
abbrev cX4_acceptedBy : ByteArray := prog_6_method_23_code
def yX4_acceptedBy : MethodName := ⟨RX4, "acceptedBy", "(I)I"⟩
abbrev cX4_sumOf : ByteArray := prog_6_method_24_code
def yX4_sumOf : MethodName := ⟨RX4, "sumOf", "(I)I"⟩
abbrev cX4_owed : ByteArray := prog_6_method_25_code
def yX4_owed : MethodName := ⟨RX4, "owed", "(II)I"⟩
abbrev cX4_budgetCell : ByteArray := prog_6_method_26_code
def yX4_budgetCell : MethodName := ⟨RX4, "budgetCell", "(II)I"⟩
abbrev cX4_heardCell : ByteArray := prog_6_method_27_code
def yX4_heardCell : MethodName := ⟨RX4, "heardCell", "(II)I"⟩
abbrev cX4_left : ByteArray := prog_6_method_28_code
def yX4_left : MethodName := ⟨RX4, "left", "(II)I"⟩
abbrev cX4_slowCount : ByteArray := prog_6_method_29_code
def yX4_slowCount : MethodName := ⟨RX4, "slowCount", "(I)I"⟩
abbrev cX4_keepZeroFast : ByteArray := prog_6_method_30_code
def yX4_keepZeroFast : MethodName := ⟨RX4, "keepZeroFast", "()V"⟩
abbrev cX4_push : ByteArray := prog_6_method_31_code
def yX4_push : MethodName := ⟨RX4, "push", "(II)V"⟩
abbrev cX4_pull : ByteArray := prog_6_method_32_code
def yX4_pull : MethodName := ⟨RX4, "pull", "(II)V"⟩
abbrev cX4_readBy : ByteArray := prog_6_method_33_code
def yX4_readBy : MethodName := ⟨RX4, "readBy", "(I)I"⟩
abbrev cX4_readCost : ByteArray := prog_6_method_34_code
def yX4_readCost : MethodName := ⟨RX4, "readCost", "(I)I"⟩
abbrev cX4_accepts : ByteArray := prog_6_method_35_code
def yX4_accepts : MethodName := ⟨RX4, "accepts", "(II)I"⟩
abbrev cX4_passes : ByteArray := prog_6_method_36_code
def yX4_passes : MethodName := ⟨RX4, "passes", "(I)I"⟩
abbrev cX4_pulls : ByteArray := prog_6_method_37_code
def yX4_pulls : MethodName := ⟨RX4, "pulls", "(II)I"⟩
abbrev cX4_reads : ByteArray := prog_6_method_38_code
def yX4_reads : MethodName := ⟨RX4, "reads", "(I)I"⟩
abbrev cX4_moves : ByteArray := prog_6_method_39_code
def yX4_moves : MethodName := ⟨RX4, "moves", "(IIII)I"⟩
abbrev cX4_evens : ByteArray := prog_6_method_40_code
def yX4_evens : MethodName := ⟨RX4, "evens", "(I)I"⟩
abbrev cX4_bounds : ByteArray := prog_6_method_41_code
def yX4_bounds : MethodName := ⟨RX4, "bounds", "(IIII)I"⟩
abbrev cX4_undo : ByteArray := prog_6_method_42_code
def yX4_undo : MethodName := ⟨RX4, "undo", "()I"⟩
abbrev cX4_spare : ByteArray := prog_6_method_43_code
def yX4_spare : MethodName := ⟨RX4, "spare", "(I)I"⟩
abbrev cX4_copy : ByteArray := prog_6_method_44_code
def yX4_copy : MethodName := ⟨RX4, "copy", "(II)I"⟩
abbrev cX4_pair : ByteArray := prog_6_method_45_code
def yX4_pair : MethodName := ⟨RX4, "pair", "(III)I"⟩
abbrev cX4_holders : ByteArray := prog_6_method_46_code
def yX4_holders : MethodName := ⟨RX4, "holders", "(II)I"⟩
abbrev cX4_write : ByteArray := prog_6_method_47_code
def yX4_write : MethodName := ⟨RX4, "write", "(II)I"⟩
abbrev cX4_costs : ByteArray := prog_6_method_48_code
def yX4_costs : MethodName := ⟨RX4, "costs", "(II)I"⟩
abbrev cX4_sees : ByteArray := prog_6_method_49_code
def yX4_sees : MethodName := ⟨RX4, "sees", "(II)I"⟩
abbrev cX4_forget : ByteArray := prog_6_method_50_code
def yX4_forget : MethodName := ⟨RX4, "forget", "()I"⟩
abbrev cX4_property : ByteArray := prog_6_method_51_code
def yX4_property : MethodName := ⟨RX4, "property", "(II)I"⟩
abbrev cX4_candidates : ByteArray := prog_6_method_52_code
def yX4_candidates : MethodName := ⟨RX4, "candidates", "()I"⟩
abbrev cX4_which : ByteArray := prog_6_method_53_code
def yX4_which : MethodName := ⟨RX4, "which", "()I"⟩
abbrev cX4_largestGroup : ByteArray := prog_6_method_54_code
def yX4_largestGroup : MethodName := ⟨RX4, "largestGroup", "(II)I"⟩
abbrev cX4_ask : ByteArray := prog_6_method_55_code
def yX4_ask : MethodName := ⟨RX4, "ask", "()I"⟩
abbrev cX4_keep : ByteArray := prog_6_method_56_code
def yX4_keep : MethodName := ⟨RX4, "keep", "(I)I"⟩
abbrev cX4_back : ByteArray := prog_6_method_57_code
def yX4_back : MethodName := ⟨RX4, "back", "(I)I"⟩
abbrev cX4_fullCopies : ByteArray := prog_6_method_58_code
def yX4_fullCopies : MethodName := ⟨RX4, "fullCopies", "()I"⟩
abbrev cX4_count : ByteArray := prog_6_method_59_code
def yX4_count : MethodName := ⟨RX4, "count", "(I)I"⟩
def RJx145de : String := "java/io/Serializable"
def TJx145de : u_T := fun k => match k with
  | _ => ("", "", "", false)
def tyJx145de : Nat → FieldType := fun k => match k with
  | _ => .int
abbrev wsJx145de0 : List Cond := u_ws RJx145de TJx145de 0
theorem nmJx145de : ∀ a, a < 0 → ∀ b, b < 0 → a ≠ b → (TJx145de a).2.1 ≠ (TJx145de b).2.1 := by decide +kernel
theorem tyJx145de_ok : ∀ k, k < 0 → parseFieldDescriptor (TJx145de k).2.2.1 = some (tyJx145de k) := by decide +kernel
def RJx9f9b0 : String := "java/lang/CharSequence"
def TJx9f9b0 : u_T := fun k => match k with
  | _ => ("", "", "", false)
def tyJx9f9b0 : Nat → FieldType := fun k => match k with
  | _ => .int
abbrev wsJx9f9b00 : List Cond := u_ws RJx9f9b0 TJx9f9b0 0
theorem nmJx9f9b0 : ∀ a, a < 0 → ∀ b, b < 0 → a ≠ b → (TJx9f9b0 a).2.1 ≠ (TJx9f9b0 b).2.1 := by decide +kernel
theorem tyJx9f9b0_ok : ∀ k, k < 0 → parseFieldDescriptor (TJx9f9b0 k).2.2.1 = some (tyJx9f9b0 k) := by decide +kernel
def RJxb160c : String := "java/lang/Comparable"
def TJxb160c : u_T := fun k => match k with
  | _ => ("", "", "", false)
def tyJxb160c : Nat → FieldType := fun k => match k with
  | _ => .int
abbrev wsJxb160c0 : List Cond := u_ws RJxb160c TJxb160c 0
theorem nmJxb160c : ∀ a, a < 0 → ∀ b, b < 0 → a ≠ b → (TJxb160c a).2.1 ≠ (TJxb160c b).2.1 := by decide +kernel
theorem tyJxb160c_ok : ∀ k, k < 0 → parseFieldDescriptor (TJxb160c k).2.2.1 = some (tyJxb160c k) := by decide +kernel
def RJ6 : String := "java/lang/Integer"
def TJ6 : u_T := fun k => match k with
  | _ => ("", "", "", false)
def tyJ6 : Nat → FieldType := fun k => match k with
  | _ => .int
abbrev wsJ60 : List Cond := u_ws RJ6 TJ6 0
theorem nmJ6 : ∀ a, a < 0 → ∀ b, b < 0 → a ≠ b → (TJ6 a).2.1 ≠ (TJ6 b).2.1 := by decide +kernel
theorem tyJ6_ok : ∀ k, k < 0 → parseFieldDescriptor (TJ6 k).2.2.1 = some (tyJ6 k) := by decide +kernel
abbrev cJ6_bitCount_0f7a4 : ByteArray := prog_7_method_49_code
def yJ6_bitCount_0f7a4 : MethodName := ⟨RJ6, "bitCount", "(I)I"⟩
def RJ9 : String := "java/lang/Math"
def TJ9 : u_T := fun k => match k with
  | _ => ("", "", "", false)
def tyJ9 : Nat → FieldType := fun k => match k with
  | _ => .int
abbrev wsJ90 : List Cond := u_ws RJ9 TJ9 0
theorem nmJ9 : ∀ a, a < 0 → ∀ b, b < 0 → a ≠ b → (TJ9 a).2.1 ≠ (TJ9 b).2.1 := by decide +kernel
theorem tyJ9_ok : ∀ k, k < 0 → parseFieldDescriptor (TJ9 k).2.2.1 = some (tyJ9 k) := by decide +kernel
abbrev cJ9_max_7cf53 : ByteArray := prog_8_method_65_code
def yJ9_max_7cf53 : MethodName := ⟨RJ9, "max", "(II)I"⟩
abbrev cJ9_min_7cf53 : ByteArray := prog_8_method_69_code
def yJ9_min_7cf53 : MethodName := ⟨RJ9, "min", "(II)I"⟩
def RJ0 : String := "java/lang/String"
def TJ0 : u_T := fun k => match k with
  | _ => ("", "", "", false)
def tyJ0 : Nat → FieldType := fun k => match k with
  | _ => .int
abbrev wsJ00 : List Cond := u_ws RJ0 TJ0 0
theorem nmJ0 : ∀ a, a < 0 → ∀ b, b < 0 → a ≠ b → (TJ0 a).2.1 ≠ (TJ0 b).2.1 := by decide +kernel
theorem tyJ0_ok : ∀ k, k < 0 → parseFieldDescriptor (TJ0 k).2.2.1 = some (tyJ0 k) := by decide +kernel
abbrev cJ0_length_8abf5 : ByteArray := prog_9_method_54_code
def yJ0_length_8abf5 : MethodName := ⟨RJ0, "length", "()I"⟩
abbrev cJ0_charAt_5068e : ByteArray := prog_9_method_56_code
def yJ0_charAt_5068e : MethodName := ⟨RJ0, "charAt", "(I)C"⟩
abbrev cJ0_coder_7d493 : ByteArray := prog_9_method_152_code
def yJ0_coder_7d493 : MethodName := ⟨RJ0, "coder", "()B"⟩
abbrev cJ0_isLatin1_aae02 : ByteArray := prog_9_method_154_code
def yJ0_isLatin1_aae02 : MethodName := ⟨RJ0, "isLatin1", "()Z"⟩
abbrev cJ0_checkIndex_df160 : ByteArray := prog_9_method_155_code
def yJ0_checkIndex_df160 : MethodName := ⟨RJ0, "checkIndex", "(II)V"⟩
def RJ1 : String := "java/lang/StringLatin1"
def TJ1 : u_T := fun k => match k with
  | _ => ("", "", "", false)
def tyJ1 : Nat → FieldType := fun k => match k with
  | _ => .int
abbrev wsJ10 : List Cond := u_ws RJ1 TJ1 0
theorem nmJ1 : ∀ a, a < 0 → ∀ b, b < 0 → a ≠ b → (TJ1 a).2.1 ≠ (TJ1 b).2.1 := by decide +kernel
theorem tyJ1_ok : ∀ k, k < 0 → parseFieldDescriptor (TJ1 k).2.2.1 = some (tyJ1 k) := by decide +kernel
abbrev cJ1_charAt_3b067 : ByteArray := prog_10_method_2_code
def yJ1_charAt_3b067 : MethodName := ⟨RJ1, "charAt", "([BI)C"⟩
def RJ2 : String := "java/lang/StringUTF16"
def TJ2 : u_T := fun k => match k with
  | _ => ("", "", "", false)
def tyJ2 : Nat → FieldType := fun k => match k with
  | _ => .int
abbrev wsJ20 : List Cond := u_ws RJ2 TJ2 0
theorem nmJ2 : ∀ a, a < 0 → ∀ b, b < 0 → a ≠ b → (TJ2 a).2.1 ≠ (TJ2 b).2.1 := by decide +kernel
theorem tyJ2_ok : ∀ k, k < 0 → parseFieldDescriptor (TJ2 k).2.2.1 = some (tyJ2 k) := by decide +kernel
abbrev cJ2_getChar_3b067 : ByteArray := prog_11_method_5_code
def yJ2_getChar_3b067 : MethodName := ⟨RJ2, "getChar", "([BI)C"⟩
abbrev cJ2_length_9d52b : ByteArray := prog_11_method_6_code
def yJ2_length_9d52b : MethodName := ⟨RJ2, "length", "([B)I"⟩
abbrev cJ2_charAt_3b067 : ByteArray := prog_11_method_83_code
def yJ2_charAt_3b067 : MethodName := ⟨RJ2, "charAt", "([BI)C"⟩
abbrev cJ2_checkIndex_2214a : ByteArray := prog_11_method_91_code
def yJ2_checkIndex_2214a : MethodName := ⟨RJ2, "checkIndex", "(I[B)V"⟩
def RJ10 : String := "java/lang/System"
def TJ10 : u_T := fun k => match k with
  | _ => ("", "", "", false)
def tyJ10 : Nat → FieldType := fun k => match k with
  | _ => .int
abbrev wsJ100 : List Cond := u_ws RJ10 TJ10 0
theorem nmJ10 : ∀ a, a < 0 → ∀ b, b < 0 → a ≠ b → (TJ10 a).2.1 ≠ (TJ10 b).2.1 := by decide +kernel
theorem tyJ10_ok : ∀ k, k < 0 → parseFieldDescriptor (TJ10 k).2.2.1 = some (tyJ10 k) := by decide +kernel
def RJxfd54e : String := "java/lang/constant/Constable"
def TJxfd54e : u_T := fun k => match k with
  | _ => ("", "", "", false)
def tyJxfd54e : Nat → FieldType := fun k => match k with
  | _ => .int
abbrev wsJxfd54e0 : List Cond := u_ws RJxfd54e TJxfd54e 0
theorem nmJxfd54e : ∀ a, a < 0 → ∀ b, b < 0 → a ≠ b → (TJxfd54e a).2.1 ≠ (TJxfd54e b).2.1 := by decide +kernel
theorem tyJxfd54e_ok : ∀ k, k < 0 → parseFieldDescriptor (TJxfd54e k).2.2.1 = some (tyJxfd54e k) := by decide +kernel
def RJx3cf43 : String := "java/lang/constant/ConstantDesc"
def TJx3cf43 : u_T := fun k => match k with
  | _ => ("", "", "", false)
def tyJx3cf43 : Nat → FieldType := fun k => match k with
  | _ => .int
abbrev wsJx3cf430 : List Cond := u_ws RJx3cf43 TJx3cf43 0
theorem nmJx3cf43 : ∀ a, a < 0 → ∀ b, b < 0 → a ≠ b → (TJx3cf43 a).2.1 ≠ (TJx3cf43 b).2.1 := by decide +kernel
theorem tyJx3cf43_ok : ∀ k, k < 0 → parseFieldDescriptor (TJx3cf43 k).2.2.1 = some (tyJx3cf43 k) := by decide +kernel
def RJ7 : String := "java/util/Arrays"
def TJ7 : u_T := fun k => match k with
  | _ => ("", "", "", false)
def tyJ7 : Nat → FieldType := fun k => match k with
  | _ => .int
abbrev wsJ70 : List Cond := u_ws RJ7 TJ7 0
theorem nmJ7 : ∀ a, a < 0 → ∀ b, b < 0 → a ≠ b → (TJ7 a).2.1 ≠ (TJ7 b).2.1 := by decide +kernel
theorem tyJ7_ok : ∀ k, k < 0 → parseFieldDescriptor (TJ7 k).2.2.1 = some (tyJ7 k) := by decide +kernel
abbrev cJ7_fill_53178 : ByteArray := prog_13_method_103_code
def yJ7_fill_53178 : MethodName := ⟨RJ7, "fill", "([II)V"⟩
def RJ3 : String := "jdk/internal/util/Preconditions"
def TJ3 : u_T := fun k => match k with
  | _ => ("", "", "", false)
def tyJ3 : Nat → FieldType := fun k => match k with
  | _ => .int
abbrev wsJ30 : List Cond := u_ws RJ3 TJ3 0
theorem nmJ3 : ∀ a, a < 0 → ∀ b, b < 0 → a ≠ b → (TJ3 a).2.1 ≠ (TJ3 b).2.1 := by decide +kernel
theorem tyJ3_ok : ∀ k, k < 0 → parseFieldDescriptor (TJ3 k).2.2.1 = some (tyJ3 k) := by decide +kernel
abbrev cJ3_checkIndex_8e157 : ByteArray := prog_14_method_11_code
def yJ3_checkIndex_8e157 : MethodName := ⟨RJ3, "checkIndex", "(IILjava/util/function/BiFunction;)I"⟩
def RL : String := "StaleBoundsLaw"
abbrev cL_law : ByteArray := code
def yL_law : MethodName := ⟨RL, "law", "([I)Z"⟩
abbrev vwCl : List vw_C := [(RX0, TX0, 3), (RX1, TX1, 13), (RX2, TX2, 6), (RX3, TX3, 10), (RX4, TX4, 17)]
/-- the tables, but for the words that may not be carried into a call -/
def tb : List Cond := lw_tbl.filter goodWord
theorem tb_in : ∀ w ∈ tb, w ∈ lw_tbl := fun _ h => (List.mem_filter.mp h).1
theorem tb_good : GoodIn tb tb := fun _ h => ⟨h, good_of_word (List.mem_filter.mp h).2⟩
