section
-- ===== PART A: goes FIRST, ahead of the names: the tables' words, and 'selects' of the private methods out of them =====
/-- a private method of a class that the tables say can be made, by its rows of tables_1 -/
def lw_okq (q : MethodName × Nat) : Prop := (q.1.cls ≠ "java/lang/invoke/MethodHandle" ∧ q.1.cls ≠ "java/lang/invoke/VarHandle") ∧ Cond.instantiable q.1.cls q.2 ∈ tables_1 ∧ Cond.privateMethod q.1 ∈ tables_1 ∧ Cond.instanceMethod q.1 ∈ tables_1
theorem lw_p0 : lw_okq (⟨"HandleHeap", "slideTogether", "()V"⟩, 10) := ⟨⟨by decide +kernel, by decide +kernel⟩, List.mem_of_getElem? (i := 22) (by decide +kernel), List.mem_of_getElem? (i := 70) (by decide +kernel), List.mem_of_getElem? (i := 71) (by decide +kernel)⟩
theorem lw_p1 : lw_okq (⟨"HandleHeap", "isMovable", "(I)Z"⟩, 10) := ⟨⟨by decide +kernel, by decide +kernel⟩, List.mem_of_getElem? (i := 22) (by decide +kernel), List.mem_of_getElem? (i := 74) (by decide +kernel), List.mem_of_getElem? (i := 75) (by decide +kernel)⟩
theorem lw_p2 : lw_okq (⟨"HandleHeap", "moveTo", "(II)V"⟩, 10) := ⟨⟨by decide +kernel, by decide +kernel⟩, List.mem_of_getElem? (i := 22) (by decide +kernel), List.mem_of_getElem? (i := 78) (by decide +kernel), List.mem_of_getElem? (i := 79) (by decide +kernel)⟩
theorem lw_p3 : lw_okq (⟨"HandleHeap", "endOf", "(I)I"⟩, 10) := ⟨⟨by decide +kernel, by decide +kernel⟩, List.mem_of_getElem? (i := 22) (by decide +kernel), List.mem_of_getElem? (i := 85) (by decide +kernel), List.mem_of_getElem? (i := 86) (by decide +kernel)⟩
theorem lw_p4 : lw_okq (⟨"HandleHeap", "greatestGap", "()I"⟩, 10) := ⟨⟨by decide +kernel, by decide +kernel⟩, List.mem_of_getElem? (i := 22) (by decide +kernel), List.mem_of_getElem? (i := 89) (by decide +kernel), List.mem_of_getElem? (i := 90) (by decide +kernel)⟩
theorem lw_p5 : lw_okq (⟨"HandleHeap", "gapLength", "(I)I"⟩, 10) := ⟨⟨by decide +kernel, by decide +kernel⟩, List.mem_of_getElem? (i := 22) (by decide +kernel), List.mem_of_getElem? (i := 93) (by decide +kernel), List.mem_of_getElem? (i := 94) (by decide +kernel)⟩
theorem lw_p6 : lw_okq (⟨"HandleHeap", "gapBegin", "(I)I"⟩, 10) := ⟨⟨by decide +kernel, by decide +kernel⟩, List.mem_of_getElem? (i := 22) (by decide +kernel), List.mem_of_getElem? (i := 97) (by decide +kernel), List.mem_of_getElem? (i := 98) (by decide +kernel)⟩
theorem lw_p7 : lw_okq (⟨"java/lang/Throwable", "fillInStackTrace", "(I)Ljava/lang/Throwable;"⟩, 6) := ⟨⟨by decide +kernel, by decide +kernel⟩, List.mem_of_getElem? (i := 154) (by decide +kernel), List.mem_of_getElem? (i := 152) (by decide +kernel), List.mem_of_getElem? (i := 153) (by decide +kernel)⟩
theorem lw_p8 : lw_okq (⟨"HandleHeap", "leastUnused", "()I"⟩, 10) := ⟨⟨by decide +kernel, by decide +kernel⟩, List.mem_of_getElem? (i := 22) (by decide +kernel), List.mem_of_getElem? (i := 184) (by decide +kernel), List.mem_of_getElem? (i := 185) (by decide +kernel)⟩
theorem lw_p9 : lw_okq (⟨"HandleHeap", "makeBlock", "(IIZ)Z"⟩, 10) := ⟨⟨by decide +kernel, by decide +kernel⟩, List.mem_of_getElem? (i := 22) (by decide +kernel), List.mem_of_getElem? (i := 188) (by decide +kernel), List.mem_of_getElem? (i := 189) (by decide +kernel)⟩
theorem lw_p10 : lw_okq (⟨"HandleHeap", "findRoom", "(II)I"⟩, 10) := ⟨⟨by decide +kernel, by decide +kernel⟩, List.mem_of_getElem? (i := 22) (by decide +kernel), List.mem_of_getElem? (i := 192) (by decide +kernel), List.mem_of_getElem? (i := 193) (by decide +kernel)⟩
theorem lw_p11 : lw_okq (⟨"HandleHeap", "firstGapOf", "(I)I"⟩, 10) := ⟨⟨by decide +kernel, by decide +kernel⟩, List.mem_of_getElem? (i := 22) (by decide +kernel), List.mem_of_getElem? (i := 196) (by decide +kernel), List.mem_of_getElem? (i := 197) (by decide +kernel)⟩
theorem lw_p12 : lw_okq (⟨"HandleHeap", "giveUpFirst", "(I)Z"⟩, 10) := ⟨⟨by decide +kernel, by decide +kernel⟩, List.mem_of_getElem? (i := 22) (by decide +kernel), List.mem_of_getElem? (i := 200) (by decide +kernel), List.mem_of_getElem? (i := 201) (by decide +kernel)⟩
theorem lw_p13 : lw_okq (⟨"HandleHeap", "giveUp", "(I)V"⟩, 10) := ⟨⟨by decide +kernel, by decide +kernel⟩, List.mem_of_getElem? (i := 22) (by decide +kernel), List.mem_of_getElem? (i := 204) (by decide +kernel), List.mem_of_getElem? (i := 205) (by decide +kernel)⟩
theorem lw_p14 : lw_okq (⟨"HandleHeap", "takeBlock", "(II)V"⟩, 10) := ⟨⟨by decide +kernel, by decide +kernel⟩, List.mem_of_getElem? (i := 22) (by decide +kernel), List.mem_of_getElem? (i := 208) (by decide +kernel), List.mem_of_getElem? (i := 209) (by decide +kernel)⟩
theorem lw_p15 : lw_okq (⟨"HandleHeap", "leaveRow", "(I)V"⟩, 10) := ⟨⟨by decide +kernel, by decide +kernel⟩, List.mem_of_getElem? (i := 22) (by decide +kernel), List.mem_of_getElem? (i := 212) (by decide +kernel), List.mem_of_getElem? (i := 213) (by decide +kernel)⟩
def lw_privs_1 : List (MethodName × Nat) := [(⟨"HandleHeap", "slideTogether", "()V"⟩, 10), (⟨"HandleHeap", "isMovable", "(I)Z"⟩, 10), (⟨"HandleHeap", "moveTo", "(II)V"⟩, 10), (⟨"HandleHeap", "endOf", "(I)I"⟩, 10), (⟨"HandleHeap", "greatestGap", "()I"⟩, 10), (⟨"HandleHeap", "gapLength", "(I)I"⟩, 10), (⟨"HandleHeap", "gapBegin", "(I)I"⟩, 10), (⟨"java/lang/Throwable", "fillInStackTrace", "(I)Ljava/lang/Throwable;"⟩, 6), (⟨"HandleHeap", "leastUnused", "()I"⟩, 10), (⟨"HandleHeap", "makeBlock", "(IIZ)Z"⟩, 10), (⟨"HandleHeap", "findRoom", "(II)I"⟩, 10), (⟨"HandleHeap", "firstGapOf", "(I)I"⟩, 10), (⟨"HandleHeap", "giveUpFirst", "(I)Z"⟩, 10), (⟨"HandleHeap", "giveUp", "(I)V"⟩, 10), (⟨"HandleHeap", "takeBlock", "(II)V"⟩, 10), (⟨"HandleHeap", "leaveRow", "(I)V"⟩, 10)]
theorem lw_r1 : ∀ q ∈ lw_privs_1, lw_okq q := List.forall_mem_cons.mpr ⟨lw_p0, List.forall_mem_cons.mpr ⟨lw_p1, List.forall_mem_cons.mpr ⟨lw_p2, List.forall_mem_cons.mpr ⟨lw_p3, List.forall_mem_cons.mpr ⟨lw_p4, List.forall_mem_cons.mpr ⟨lw_p5, List.forall_mem_cons.mpr ⟨lw_p6, List.forall_mem_cons.mpr ⟨lw_p7, List.forall_mem_cons.mpr ⟨lw_p8, List.forall_mem_cons.mpr ⟨lw_p9, List.forall_mem_cons.mpr ⟨lw_p10, List.forall_mem_cons.mpr ⟨lw_p11, List.forall_mem_cons.mpr ⟨lw_p12, List.forall_mem_cons.mpr ⟨lw_p13, List.forall_mem_cons.mpr ⟨lw_p14, List.forall_mem_cons.mpr ⟨lw_p15, fun _ h => absurd h List.not_mem_nil⟩⟩⟩⟩⟩⟩⟩⟩⟩⟩⟩⟩⟩⟩⟩⟩
theorem lw_p16 : lw_okq (⟨"HandleHeap", "setLength", "(II)V"⟩, 10) := ⟨⟨by decide +kernel, by decide +kernel⟩, List.mem_of_getElem? (i := 22) (by decide +kernel), List.mem_of_getElem? (i := 216) (by decide +kernel), List.mem_of_getElem? (i := 217) (by decide +kernel)⟩
theorem lw_p17 : lw_okq (⟨"HandleHeap", "enterRow", "(I)V"⟩, 10) := ⟨⟨by decide +kernel, by decide +kernel⟩, List.mem_of_getElem? (i := 22) (by decide +kernel), List.mem_of_getElem? (i := 486) (by decide +kernel), List.mem_of_getElem? (i := 487) (by decide +kernel)⟩
theorem lw_p18 : lw_okq (⟨"HandleHeap", "checkInUse", "(I)V"⟩, 10) := ⟨⟨by decide +kernel, by decide +kernel⟩, List.mem_of_getElem? (i := 22) (by decide +kernel), List.mem_of_getElem? (i := 497) (by decide +kernel), List.mem_of_getElem? (i := 498) (by decide +kernel)⟩
theorem lw_p19 : lw_okq (⟨"HandleHeap", "freeBehind", "(I)I"⟩, 10) := ⟨⟨by decide +kernel, by decide +kernel⟩, List.mem_of_getElem? (i := 22) (by decide +kernel), List.mem_of_getElem? (i := 513) (by decide +kernel), List.mem_of_getElem? (i := 514) (by decide +kernel)⟩
theorem lw_p20 : lw_okq (⟨"HandleHeap", "growElsewhere", "(II)Z"⟩, 10) := ⟨⟨by decide +kernel, by decide +kernel⟩, List.mem_of_getElem? (i := 22) (by decide +kernel), List.mem_of_getElem? (i := 517) (by decide +kernel), List.mem_of_getElem? (i := 518) (by decide +kernel)⟩
theorem lw_p21 : lw_okq (⟨"HandleHeap", "checkHasBlock", "(I)V"⟩, 10) := ⟨⟨by decide +kernel, by decide +kernel⟩, List.mem_of_getElem? (i := 22) (by decide +kernel), List.mem_of_getElem? (i := 529) (by decide +kernel), List.mem_of_getElem? (i := 530) (by decide +kernel)⟩
theorem lw_p22 : lw_okq (⟨"HandleHeap", "freeBytes", "()I"⟩, 10) := ⟨⟨by decide +kernel, by decide +kernel⟩, List.mem_of_getElem? (i := 22) (by decide +kernel), List.mem_of_getElem? (i := 639) (by decide +kernel), List.mem_of_getElem? (i := 640) (by decide +kernel)⟩
theorem lw_p23 : lw_okq (⟨"HandleHeap", "countGaps", "()I"⟩, 10) := ⟨⟨by decide +kernel, by decide +kernel⟩, List.mem_of_getElem? (i := 22) (by decide +kernel), List.mem_of_getElem? (i := 643) (by decide +kernel), List.mem_of_getElem? (i := 644) (by decide +kernel)⟩
theorem lw_p24 : lw_okq (⟨"HandleHeap", "countHandles", "(I)I"⟩, 10) := ⟨⟨by decide +kernel, by decide +kernel⟩, List.mem_of_getElem? (i := 22) (by decide +kernel), List.mem_of_getElem? (i := 647) (by decide +kernel), List.mem_of_getElem? (i := 648) (by decide +kernel)⟩
theorem lw_p25 : lw_okq (⟨"HandleHeapModel", "room", "(II)I"⟩, 10) := ⟨⟨by decide +kernel, by decide +kernel⟩, List.mem_of_getElem? (i := 652) (by decide +kernel), List.mem_of_getElem? (i := 701) (by decide +kernel), List.mem_of_getElem? (i := 702) (by decide +kernel)⟩
theorem lw_p26 : lw_okq (⟨"HandleHeapModel", "place", "(I)I"⟩, 10) := ⟨⟨by decide +kernel, by decide +kernel⟩, List.mem_of_getElem? (i := 652) (by decide +kernel), List.mem_of_getElem? (i := 705) (by decide +kernel), List.mem_of_getElem? (i := 706) (by decide +kernel)⟩
theorem lw_p27 : lw_okq (⟨"HandleHeapModel", "freeTo", "(I)I"⟩, 10) := ⟨⟨by decide +kernel, by decide +kernel⟩, List.mem_of_getElem? (i := 652) (by decide +kernel), List.mem_of_getElem? (i := 709) (by decide +kernel), List.mem_of_getElem? (i := 710) (by decide +kernel)⟩
theorem lw_p28 : lw_okq (⟨"HandleHeapModel", "firstFrom", "(I)I"⟩, 10) := ⟨⟨by decide +kernel, by decide +kernel⟩, List.mem_of_getElem? (i := 652) (by decide +kernel), List.mem_of_getElem? (i := 713) (by decide +kernel), List.mem_of_getElem? (i := 714) (by decide +kernel)⟩
theorem lw_p29 : lw_okq (⟨"HandleHeapModel", "has", "(I)Z"⟩, 10) := ⟨⟨by decide +kernel, by decide +kernel⟩, List.mem_of_getElem? (i := 652) (by decide +kernel), List.mem_of_getElem? (i := 717) (by decide +kernel), List.mem_of_getElem? (i := 718) (by decide +kernel)⟩
theorem lw_p30 : lw_okq (⟨"HandleHeapModel", "slideAll", "()V"⟩, 10) := ⟨⟨by decide +kernel, by decide +kernel⟩, List.mem_of_getElem? (i := 652) (by decide +kernel), List.mem_of_getElem? (i := 721) (by decide +kernel), List.mem_of_getElem? (i := 722) (by decide +kernel)⟩
theorem lw_p31 : lw_okq (⟨"HandleHeapModel", "isMovable", "(I)Z"⟩, 10) := ⟨⟨by decide +kernel, by decide +kernel⟩, List.mem_of_getElem? (i := 652) (by decide +kernel), List.mem_of_getElem? (i := 725) (by decide +kernel), List.mem_of_getElem? (i := 726) (by decide +kernel)⟩
def lw_privs_2 : List (MethodName × Nat) := [(⟨"HandleHeap", "setLength", "(II)V"⟩, 10), (⟨"HandleHeap", "enterRow", "(I)V"⟩, 10), (⟨"HandleHeap", "checkInUse", "(I)V"⟩, 10), (⟨"HandleHeap", "freeBehind", "(I)I"⟩, 10), (⟨"HandleHeap", "growElsewhere", "(II)Z"⟩, 10), (⟨"HandleHeap", "checkHasBlock", "(I)V"⟩, 10), (⟨"HandleHeap", "freeBytes", "()I"⟩, 10), (⟨"HandleHeap", "countGaps", "()I"⟩, 10), (⟨"HandleHeap", "countHandles", "(I)I"⟩, 10), (⟨"HandleHeapModel", "room", "(II)I"⟩, 10), (⟨"HandleHeapModel", "place", "(I)I"⟩, 10), (⟨"HandleHeapModel", "freeTo", "(I)I"⟩, 10), (⟨"HandleHeapModel", "firstFrom", "(I)I"⟩, 10), (⟨"HandleHeapModel", "has", "(I)Z"⟩, 10), (⟨"HandleHeapModel", "slideAll", "()V"⟩, 10), (⟨"HandleHeapModel", "isMovable", "(I)Z"⟩, 10)]
theorem lw_r2 : ∀ q ∈ lw_privs_2, lw_okq q := List.forall_mem_cons.mpr ⟨lw_p16, List.forall_mem_cons.mpr ⟨lw_p17, List.forall_mem_cons.mpr ⟨lw_p18, List.forall_mem_cons.mpr ⟨lw_p19, List.forall_mem_cons.mpr ⟨lw_p20, List.forall_mem_cons.mpr ⟨lw_p21, List.forall_mem_cons.mpr ⟨lw_p22, List.forall_mem_cons.mpr ⟨lw_p23, List.forall_mem_cons.mpr ⟨lw_p24, List.forall_mem_cons.mpr ⟨lw_p25, List.forall_mem_cons.mpr ⟨lw_p26, List.forall_mem_cons.mpr ⟨lw_p27, List.forall_mem_cons.mpr ⟨lw_p28, List.forall_mem_cons.mpr ⟨lw_p29, List.forall_mem_cons.mpr ⟨lw_p30, List.forall_mem_cons.mpr ⟨lw_p31, fun _ h => absurd h List.not_mem_nil⟩⟩⟩⟩⟩⟩⟩⟩⟩⟩⟩⟩⟩⟩⟩⟩
theorem lw_p32 : lw_okq (⟨"HandleHeapModel", "firstToLose", "(I)I"⟩, 10) := ⟨⟨by decide +kernel, by decide +kernel⟩, List.mem_of_getElem? (i := 652) (by decide +kernel), List.mem_of_getElem? (i := 729) (by decide +kernel), List.mem_of_getElem? (i := 730) (by decide +kernel)⟩
theorem lw_p33 : lw_okq (⟨"HandleHeapModel", "loseOne", "(I)V"⟩, 10) := ⟨⟨by decide +kernel, by decide +kernel⟩, List.mem_of_getElem? (i := 652) (by decide +kernel), List.mem_of_getElem? (i := 733) (by decide +kernel), List.mem_of_getElem? (i := 734) (by decide +kernel)⟩
theorem lw_p34 : lw_okq (⟨"HandleHeapModel", "become", "(III)V"⟩, 10) := ⟨⟨by decide +kernel, by decide +kernel⟩, List.mem_of_getElem? (i := 652) (by decide +kernel), List.mem_of_getElem? (i := 737) (by decide +kernel), List.mem_of_getElem? (i := 738) (by decide +kernel)⟩
theorem lw_p35 : lw_okq (⟨"HandleHeapModel", "notUsed", "(I)Z"⟩, 10) := ⟨⟨by decide +kernel, by decide +kernel⟩, List.mem_of_getElem? (i := 652) (by decide +kernel), List.mem_of_getElem? (i := 745) (by decide +kernel), List.mem_of_getElem? (i := 746) (by decide +kernel)⟩
theorem lw_p36 : lw_okq (⟨"HandleHeapModel", "notThere", "(I)Z"⟩, 10) := ⟨⟨by decide +kernel, by decide +kernel⟩, List.mem_of_getElem? (i := 652) (by decide +kernel), List.mem_of_getElem? (i := 757) (by decide +kernel), List.mem_of_getElem? (i := 758) (by decide +kernel)⟩
theorem lw_p37 : lw_okq (⟨"HandleHeapModel", "greatest", "()I"⟩, 10) := ⟨⟨by decide +kernel, by decide +kernel⟩, List.mem_of_getElem? (i := 652) (by decide +kernel), List.mem_of_getElem? (i := 777) (by decide +kernel), List.mem_of_getElem? (i := 778) (by decide +kernel)⟩
theorem lw_p38 : lw_okq (⟨"HandleHeapModel", "free", "(Z)I"⟩, 10) := ⟨⟨by decide +kernel, by decide +kernel⟩, List.mem_of_getElem? (i := 652) (by decide +kernel), List.mem_of_getElem? (i := 809) (by decide +kernel), List.mem_of_getElem? (i := 810) (by decide +kernel)⟩
def lw_privs_3 : List (MethodName × Nat) := [(⟨"HandleHeapModel", "firstToLose", "(I)I"⟩, 10), (⟨"HandleHeapModel", "loseOne", "(I)V"⟩, 10), (⟨"HandleHeapModel", "become", "(III)V"⟩, 10), (⟨"HandleHeapModel", "notUsed", "(I)Z"⟩, 10), (⟨"HandleHeapModel", "notThere", "(I)Z"⟩, 10), (⟨"HandleHeapModel", "greatest", "()I"⟩, 10), (⟨"HandleHeapModel", "free", "(Z)I"⟩, 10)]
theorem lw_r3 : ∀ q ∈ lw_privs_3, lw_okq q := List.forall_mem_cons.mpr ⟨lw_p32, List.forall_mem_cons.mpr ⟨lw_p33, List.forall_mem_cons.mpr ⟨lw_p34, List.forall_mem_cons.mpr ⟨lw_p35, List.forall_mem_cons.mpr ⟨lw_p36, List.forall_mem_cons.mpr ⟨lw_p37, List.forall_mem_cons.mpr ⟨lw_p38, fun _ h => absurd h List.not_mem_nil⟩⟩⟩⟩⟩⟩⟩
def lw_privs : List (MethodName × Nat) := lw_privs_1 ++ (lw_privs_2 ++ (lw_privs_3))
def lw_tbl : List Cond := k2_sels lw_privs ++ tables_1
theorem lw_privs_ok : ∀ q ∈ lw_privs, lw_okq q := by
  show ∀ q ∈ lw_privs_1 ++ (lw_privs_2 ++ (lw_privs_3)), lw_okq q
  exact List.forall_mem_append.mpr ⟨lw_r1, List.forall_mem_append.mpr ⟨lw_r2, lw_r3⟩⟩
-- ===== end of PART A; then your names; then what follows =====
end
section
/-! ===== BEGIN words of one list among another's, by their places ===== -/
theorem goodIn_r {big : List Cond} (ws : List Cond) (ps : List Nat) (hp : ws = ps.filterMap (fun i => big[i]?)) (h : ws.all goodWord = true) : GoodIn big ws := by
  intro w hw
  have h1 := List.all_eq_true.mp h w hw
  rw [hp] at hw
  obtain ⟨i, -, hi⟩ := List.mem_filterMap.mp hw
  have hm : w ∈ big := by first | exact List.mem_of_getElem? hi | exact List.getElem?_mem hi
  exact ⟨hm, good_of_word h1⟩
theorem goodIn_app {big a b : List Cond} (ha : GoodIn big a) (hb : GoodIn big b) : GoodIn big (a ++ b) := fun w h => (List.mem_append.mp h).elim (ha w) (hb w)
theorem goodIn_ca {big a b : List Cond} {c : Cond} (ha : GoodIn big (c :: a)) (hb : GoodIn big b) : GoodIn big (c :: (a ++ b)) := fun w h => (List.mem_cons.mp h).elim (fun e => ha w (List.mem_cons.mpr (Or.inl e))) (fun h => (List.mem_append.mp h).elim (fun h => ha w (List.mem_cons.mpr (Or.inr h))) (hb w))
theorem goodIn_sub {big ws : List Cond} (hm : ∀ w ∈ ws, w ∈ big) (h : ws.all goodWord = true) : GoodIn big ws := fun w hw => ⟨hm w hw, good_of_word (List.all_eq_true.mp h w hw)⟩
/-! ===== END ===== -/

/-! ===== BEGIN exceptions that leave a method, and their catching by the caller (launches without stack traces) ===== -/
section VXA
/-! The laws vx_back, vx_callV, vx_callS, vx_callSW, vx_throw0, vx_throwS follow proofs of the library, with one case more: JvmDerived/Free/Laws.lean (Back.of_free), Shelf42/LK1.lean (callV, callS), Shelf/KitTraced.lean (throwNew0V, throwNewS). -/
/-- where a method has thrown q: the class by its name, the cell, what was written, the world -/
def vx_T (XC : String → State → State → Prop) (st : State) (q : Addr) (t : State) (mc ms : Nat) (free : Addr → Prop) : Prop :=
  ∃ (E : String) (ce : Cell) (L : List Loc), XC E st t ∧ t.heap[q]? = some ce ∧ ce.vm = .none ∧ st.vm.findClass E = some ce.cls ∧ st.WarmedH t.vm ∧ st.sameButNew ({ t with vm := st.vm } : State) L mc ms ∧ ∀ z ∈ L, free z.base
def vx_Q (Qc : Array Value → State → Outcome → State → Prop) (XC : String → State → State → Prop) (mc ms : Nat) (free : Addr → Prop) : Array Value → State → Outcome → State → Prop := fun a st o t =>
  (Qc a st o t ∧ ∃ L, FrameEnd st o t L mc ms ∧ ∀ q ∈ L, free q.base) ∨ ∃ q, o = .threw q ∧ vx_T XC st q t mc ms free
/-- a callee that returns or throws -/
def vx_Met (l : Launch) (y : MethodName) (ws : List Cond) (rm : Room) (Pc : Array Value → State → Prop) (Qc : Array Value → State → Outcome → State → Prop) (XC : String → State → State → Prop) (mc ms : Nat) (free : Addr → Prop) : Prop :=
  MetFree l y (headSpec ws rm) Pc (fun _ _ _ _ _ => True) (vx_Q Qc XC mc ms free)
def vx_Post (XC : String → State → State → Prop) (mc ms : Nat) (free : Addr → Prop) : Pt → Array Value → Addr → Pt → Prop := fun A a q B =>
  ∃ (g : JFrame) (mk : MethodId) (t : State) (L : List Loc) (E : String) (ce : Cell), B.U.heap = t.heap ∧ B.U.vm = t.vm ∧ XC E (A.U.calling g mk a) t ∧ t.heap[q]? = some ce ∧ ce.vm = .none ∧ A.U.vm.findClass E = some ce.cls ∧ B.locs = A.locs ++ L ∧ (∀ z ∈ L, free z.base) ∧ B.cells = A.cells + mc ∧ B.slots = A.slots + ms
def vx_Back (l : Launch) (R : Room) (p : Program) (e : Env) (below : List Frame) (s : State) (sargs : Array Value) (y : MethodName) (len W9 : Nat)
    (Pre : Pt → Array Value → Prop) (Post : Pt → Array Value → Option Value → Pt → Prop) (PostX : Pt → Array Value → Addr → Pt → Prop) : Prop :=
  ∀ (m : MethodId) (meth : Method) (c : Code) (A : Pt) (g : JFrame) (ig : Instr) (mk : MethodId) (a : Array Value),
    Stand p l e R s m sargs below meth c A.U A.locs A.cells A.slots → g.method = m → g.locals.size = c.maxLocals → decode c.code g.pc = .ok (ig, len) →
    2 * g.monitorRoom + (g.stack.map fun v => v.category).sum ≤ W9 → A.U.methodNamed? y = some mk → Pre A a →
    (∃ (v : Option Value) (B : Pt), Stand p l e R s m sargs below meth c B.U B.locs B.cells B.slots ∧ Post A a v B ∧
      Steps p.tables e below (doInvoke e (A.U.setTop g) [] mk a).1 (B.U.setTop { g with pc := g.pc + len, stack := v.toList ++ g.stack })) ∨
    (∃ (q : Addr) (B : Pt), Stand p l e R s m sargs below meth c B.U B.locs B.cells B.slots ∧ PostX A a q B ∧
      Steps p.tables e below (doInvoke e (A.U.setTop g) [] mk a).1 ((B.U.setTop g).pushFrame (.throwing q)))
section Payer
variable {l : Launch} {R : Room} {p : Program} {e : Env} {below : List Frame} {s : State} {sargs : Array Value} {y : MethodName} {len W9 : Nat}
theorem vx_back {ws : List Cond} {rm : Room} {Pc : Array Value → State → Prop} {Qc : Array Value → State → Outcome → State → Prop} {XC : String → State → State → Prop} {mc ms : Nat} {free : Addr → Prop} {bytes : ByteArray} {maxL : Nat} {ret : Option FieldType}
    (hM : vx_Met l y ws rm Pc Qc XC mc ms free) (hblind : FrameBlind Pc) (hrc : rm.cells = mc) (hrs : rm.slots = ms)
    (hframes : rm.frames + 1 ≤ R.frames) (hlocals : W9 + (maxL + 11) + rm.locals ≤ R.locals)
    (hws : ∀ w ∈ ws, ∀ a' U, s.WarmedH U.vm → w.before a' U = true) (hcode : Cond.code y bytes maxL ret ∈ ws) (hinit : ∀ a' U, s.WarmedH U.vm → (Cond.initialized y.cls).before a' U = true) :
    vx_Back l R p e below s sargs y len W9 (PreOf R mc ms Pc) (PostOf Qc mc ms free) (vx_Post XC mc ms free) := by
  intro m meth c A g ig mk a X hg hsize hdg hW hn hp
  have h1 : (headSpec ws rm).pre.before a A.U = true := atoms_intro fun w hw => hws w hw _ _ X.warmed
  have h2 : (Cond.code y bytes maxL ret).before a A.U = true := hws _ hcode _ _ X.warmed
  have h3 : (Cond.initialized y.cls).before a A.U = true := hinit _ _ X.warmed
  have h4 : A.cells + (headSpec ws rm).room.cells ≤ R.cells := by rw [show (headSpec ws rm).room.cells = mc from hrc]; exact hp.1
  have h5 : A.slots + (headSpec ws rm).room.slots ≤ R.slots := by rw [show (headSpec ws rm).room.slots = ms from hrs]; exact hp.2.1
  have hPc : Pc a (A.U.calling g mk a) := hblind _ _ _ _ hp.2.2
  obtain ⟨U, Ls, c0, s0⟩ := A
  dsimp only [Pt.U, Pt.locs, Pt.cells, Pt.slots] at h1 h2 h3 h4 h5 X hn hPc ⊢
  obtain ⟨methY, cY, hmY, hcY, -, hlY, -, -, -, -⟩ := Cond.code_spec hn h2
  obtain ⟨kY, hkY, -⟩ := className_of_methodNamed hn
  have hinitY : kY.init = .initialized := Cond.initialized_spec (findClass_of_methodNamed hn) hkY h3
  have h : At U g.method c below := by rw [hg]; exact X.here
  have hlocals9 : W9 + (maxL + 11) + (headSpec ws rm).room.locals ≤ R.locals := hlocals
  have happ : (headSpec ws rm).appliesLoose y e.platform (U.calling g mk a) = true :=
    Spec.appliesLoose_calling (g := g) h hdg hn hkY hinitY
      (X.room_calling (g := g) (R' := (headSpec ws rm).room) hsize hmY hcY hframes (by rw [hlY]; omega) h4 h5) h1
  obtain ⟨mid, hmid⟩ := h.above
  have hfr : (U.setTop g).frames = (.java g :: mid) ++ below := by rw [State.frames_setTop' g h.top, hmid]; rfl
  obtain ⟨o, s₂, hsteps, -, hend, hq⟩ := Steps.callFree hM p X.admits X.cas X.clock (acts := []) hfr happ hPc trivial
  have hq' : vx_Q Qc XC mc ms free a (U.calling g mk a) o s₂ := hq
  rw [State.frames_setTop' g h.top] at hend
  obtain ⟨g₀, hg0⟩ := Option.isSome_iff_exists.mp h.top
  obtain ⟨r, hr⟩ := State.topJava?_eq_some.mp hg0
  have hr' : (({ U with heap := s₂.heap, slotsUsed := s₂.slotsUsed } : State).setVm s₂.vm).frames = .java g₀ :: r := hr
  rcases hq' with ⟨hqc, L, hfe, hL⟩ | ⟨q, rfl, E, ce, L, hx, hce, hcv, hcl, hW₂, hsm, hL⟩
  · obtain ⟨⟨v, rfl⟩, hW₂, e2, q2, q3, q4, q5, q6⟩ := id hfe
    have e3 : s₂ = ({ (U.calling g mk a).setFrames s₂.frames with heap := s₂.heap, slotsUsed := s₂.slotsUsed } : State).setVm s₂.vm := by
      have : s₂ = ({ s₂ with vm := (U.calling g mk a).vm } : State).setVm s₂.vm := rfl
      rw [e2] at this
      exact this
    obtain ⟨c₂, i₂, len₂, hc₂, hd₂, hf₂⟩ := hend
    have hW' : U.WarmedH s₂.vm := hW₂
    have hcc : c₂ = c := by
      have h1 : s₂.code? g.method = U.code? g.method := by
        rw [State.code?_eq, State.code?_eq, hW'.alike.method?]
      exact Option.some.inj (hc₂.symm.trans (h1.trans h.code))
    subst hcc
    have hlen : len₂ = len := by rw [hdg] at hd₂; cases hd₂; rfl
    subst hlen
    have hs₂ : s₂ = (({ U with heap := s₂.heap, slotsUsed := s₂.slotsUsed } : State).setVm s₂.vm).setTop { g with pc := g.pc + len₂, stack := v.toList ++ g.stack } := by
      refine e3.trans ?_
      rw [hf₂, State.calling_eq h.top, State.setFrames_setFrames, State.setTop_of_frames _ hr', hr]
      rfl
    have hsame : U.sameButNew ({ U with heap := s₂.heap, slotsUsed := s₂.slotsUsed } : State) L mc ms := by
      refine ⟨?_, q2, q3, q4, q5, q6⟩
      obtain ⟨t, ht, -⟩ := State.frames_cons hr
      show ({ U with heap := s₂.heap, slotsUsed := s₂.slotsUsed } : State) = { U.setFrames U.frames with heap := s₂.heap, slotsUsed := s₂.slotsUsed }
      rw [State.setFrames_self ht]
    subst hg
    refine Or.inl ⟨v, ⟨(({ U with heap := s₂.heap, slotsUsed := s₂.slotsUsed } : State).setVm s₂.vm), Ls ++ L, c0 + mc, s0 + ms⟩,
      ⟨X.admits, X.cas, X.clock, X.frames, X.room, X.hears, X.method, X.code, (X.here.setHeapUsed s₂.heap s₂.slotsUsed).setVm hW'.alike, X.tail, State.WarmedH.trans X.warmed hW', X.limits, X.bytes, X.same.trans (hsame.setVm s.vm)⟩,
      ⟨g, mk, s₂, L, rfl, rfl, hqc, rfl, hL, rfl, rfl⟩, ?_⟩
    show Steps p.tables e below _ ((({ U with heap := s₂.heap, slotsUsed := s₂.slotsUsed } : State).setVm s₂.vm).setTop { g with pc := g.pc + len₂, stack := v.toList ++ g.stack })
    rw [← hs₂]
    exact hsteps
  · obtain ⟨e2, q2, q3, q4, q5, q6⟩ := id hsm
    have e3 : s₂ = ({ (U.calling g mk a).setFrames s₂.frames with heap := s₂.heap, slotsUsed := s₂.slotsUsed } : State).setVm s₂.vm := by
      have : s₂ = ({ s₂ with vm := (U.calling g mk a).vm } : State).setVm s₂.vm := rfl
      rw [e2] at this
      exact this
    have hf₂ : s₂.frames = .throwing q :: .java g :: U.frames.tail := hend
    have hW' : U.WarmedH s₂.vm := hW₂
    have hs₂ : s₂ = ((({ U with heap := s₂.heap, slotsUsed := s₂.slotsUsed } : State).setVm s₂.vm).setTop g).pushFrame (.throwing q) := by
      refine e3.trans ?_
      rw [hf₂, State.calling_eq h.top, State.setFrames_setFrames, State.pushFrame, State.frames_setTop _ hr', State.setTop_of_frames _ hr', State.setFrames_setFrames, hr]
      rfl
    have hsame : U.sameButNew ({ U with heap := s₂.heap, slotsUsed := s₂.slotsUsed } : State) L mc ms := by
      refine ⟨?_, q2, q3, q4, q5, q6⟩
      obtain ⟨t, ht, -⟩ := State.frames_cons hr
      show ({ U with heap := s₂.heap, slotsUsed := s₂.slotsUsed } : State) = { U.setFrames U.frames with heap := s₂.heap, slotsUsed := s₂.slotsUsed }
      rw [State.setFrames_self ht]
    subst hg
    refine Or.inr ⟨q, ⟨(({ U with heap := s₂.heap, slotsUsed := s₂.slotsUsed } : State).setVm s₂.vm), Ls ++ L, c0 + mc, s0 + ms⟩,
      ⟨X.admits, X.cas, X.clock, X.frames, X.room, X.hears, X.method, X.code, (X.here.setHeapUsed s₂.heap s₂.slotsUsed).setVm hW'.alike, X.tail, State.WarmedH.trans X.warmed hW', X.limits, X.bytes, X.same.trans (hsame.setVm s.vm)⟩,
      ⟨g, mk, s₂, L, E, ce, rfl, rfl, hx, hce, hcv, hcl, rfl, hL, rfl, rfl⟩, ?_⟩
    show Steps p.tables e below _ (((({ U with heap := s₂.heap, slotsUsed := s₂.slotsUsed } : State).setVm s₂.vm).setTop g).pushFrame (.throwing q))
    rw [← hs₂]
    exact hsteps
end Payer
section Calls
variable {p : Program} {l : Launch} {e : Env} {R : Room} {s : State} {m : MethodId} {args : Array Value} {below : List Frame} {meth : Method} {c : Code} {T : State} {locs : List Loc} {cells slots : Nat}
theorem vx_callV (X : Stand p l e R s m args below meth c T locs cells slots) (hexec : p.tables.exec = Jvm.exec) {own C : String} {index : Nat} {y : MethodName} {bytes : ByteArray} {maxL : Nat} {ret : Option FieldType}
    (hown : s.vm.findClass own = some m.cls) (hlink : (Cond.methodLink own index y).before args s = true) (hinst : (Cond.instanceMethod y).before args s = true) (hsel : (Cond.selects C y y).before args s = true)
    (hcode : (Cond.code y bytes maxL ret).before args s = true) (hy : y.cls ≠ "java/lang/invoke/MethodHandle" ∧ y.cls ≠ "java/lang/invoke/VarHandle")
    {W9 : Nat} {Pre : Pt → Array Value → Prop} {Post : Pt → Array Value → Option Value → Pt → Prop} {PostX : Pt → Array Value → Addr → Pt → Prop} (hK : vx_Back l R p e below s args y 3 W9 Pre Post PostX)
    {b : Addr} {cellB : Cell} (hcell : T.heap[b]? = some cellB) (hobj : cellB.vm.isStatics = false) (hcls : s.vm.findClass C = some cellB.cls)
    {g : JFrame} (hg : g.method = m) (hsize : g.locals.size = c.maxLocals) {argsL rest : List Value} (hlen : ∀ sig, parseMethodDescriptor y.desc = some sig → argsL.length = sig.parameters.length)
    (hstack : g.stack = argsL.reverse ++ .ref b :: rest) (hW : 2 * g.monitorRoom + (rest.map fun v => v.category).sum ≤ W9) (hdg : decode c.code g.pc = .ok (.invokevirtual index, 3))
    (hpre : ∀ vm₁, s.WarmedH vm₁ → Pre ⟨T.setVm vm₁, locs, cells, slots⟩ (Value.ref b :: argsL).toArray) :
    (∃ (v : Option Value) (vm₁ : Vm) (B : Pt), s.WarmedH vm₁ ∧ Stand p l e R s m args below meth c B.U B.locs B.cells B.slots ∧ Post ⟨T.setVm vm₁, locs, cells, slots⟩ (Value.ref b :: argsL).toArray v B ∧
      ∀ target, Steps p.tables e below (B.U.setTop { g with pc := g.pc + 3, stack := v.toList ++ rest }) target → Steps p.tables e below (T.setTop g) target) ∨
    (∃ (q : Addr) (vm₁ : Vm) (B : Pt), s.WarmedH vm₁ ∧ Stand p l e R s m args below meth c B.U B.locs B.cells B.slots ∧ PostX ⟨T.setVm vm₁, locs, cells, slots⟩ (Value.ref b :: argsL).toArray q B ∧
      Steps p.tables e below (T.setTop g) ((B.U.setTop { g with stack := rest }).pushFrame (.throwing q))) := by
  obtain ⟨mk, methM, hnamed, hmethM, hstM, habM⟩ := Cond.instanceMethod_spec hinst
  obtain ⟨methM', cM, hmethM', -, -, -, -, -, -, hsigM⟩ := Cond.code_spec hnamed hcode
  cases hmethM.symm.trans hmethM'
  obtain ⟨c2, r2, m2, q1, q2, q3, q4, kP, hkP, hkPi⟩ := Cond.selects_spec hsel
  cases hcls.symm.trans q1
  cases (State.methodFound?_of_named hnamed hy).symm.trans q2
  cases hnamed.symm.trans q3
  have hselP : selectMethod e.platform s.vm cellB.cls mk = .method mk := by rw [Launch.admits_selectMethod X.admits]; exact q4
  obtain ⟨vm₁, X₁, hstep₁⟩ := X.invokevirtual hexec hown hlink hnamed hmethM hstM hkP hkPi hy (a := b) (cell := cellB) hcell
    (fun z h => by rw [h] at hobj; cases hobj) hselP hmethM habM hkP hkPi (g := g) hg (argsL := argsL) (rest := rest) (hlen _ hsigM) hstack hdg
  rcases hK m meth c ⟨T.setVm vm₁, locs, cells, slots⟩ { g with stack := rest } (.invokevirtual index) mk (Value.ref b :: argsL).toArray X₁ hg hsize hdg hW (X₁.named hnamed) (hpre vm₁ X₁.warmed) with ⟨v, B, X', hpost, hsteps⟩ | ⟨q, B, X', hpost, hsteps⟩
  · exact Or.inl ⟨v, vm₁, B, X₁.warmed, X', hpost, fun target h => hstep₁ _ fun acts => by rw [doInvoke_state]; exact hsteps.trans h⟩
  · exact Or.inr ⟨q, vm₁, B, X₁.warmed, X', hpost, hstep₁ _ fun acts => by rw [doInvoke_state]; exact hsteps⟩
theorem vx_callS (X : Stand p l e R s m args below meth c T locs cells slots) (hexec : p.tables.exec = Jvm.exec) {own : String} {index : Nat} {y : MethodName} {bytes : ByteArray} {maxL : Nat} {ret : Option FieldType}
    (hown : s.vm.findClass own = some m.cls) (hlink : (Cond.methodLink own index y).before args s = true) (hstat : (Cond.static y).before args s = true) (hinit : (Cond.initialized y.cls).before args s = true)
    (hcode : (Cond.code y bytes maxL ret).before args s = true) (hy : y.cls ≠ "java/lang/invoke/MethodHandle" ∧ y.cls ≠ "java/lang/invoke/VarHandle")
    {W9 : Nat} {Pre : Pt → Array Value → Prop} {Post : Pt → Array Value → Option Value → Pt → Prop} {PostX : Pt → Array Value → Addr → Pt → Prop} (hK : vx_Back l R p e below s args y 3 W9 Pre Post PostX)
    {g : JFrame} (hg : g.method = m) (hsize : g.locals.size = c.maxLocals) {argsL rest : List Value} (hlen : ∀ sig, parseMethodDescriptor y.desc = some sig → argsL.length = sig.parameters.length)
    (hstack : g.stack = argsL.reverse ++ rest) (hW : 2 * g.monitorRoom + (rest.map fun v => v.category).sum ≤ W9) (hdg : decode c.code g.pc = .ok (.invokestatic index, 3))
    (hpre : ∀ vm₁, s.WarmedH vm₁ → Pre ⟨T.setVm vm₁, locs, cells, slots⟩ argsL.toArray) :
    (∃ (v : Option Value) (vm₁ : Vm) (B : Pt), s.WarmedH vm₁ ∧ Stand p l e R s m args below meth c B.U B.locs B.cells B.slots ∧ Post ⟨T.setVm vm₁, locs, cells, slots⟩ argsL.toArray v B ∧
      ∀ target, Steps p.tables e below (B.U.setTop { g with pc := g.pc + 3, stack := v.toList ++ rest }) target → Steps p.tables e below (T.setTop g) target) ∨
    (∃ (q : Addr) (vm₁ : Vm) (B : Pt), s.WarmedH vm₁ ∧ Stand p l e R s m args below meth c B.U B.locs B.cells B.slots ∧ PostX ⟨T.setVm vm₁, locs, cells, slots⟩ argsL.toArray q B ∧
      Steps p.tables e below (T.setTop g) ((B.U.setTop { g with stack := rest }).pushFrame (.throwing q))) := by
  obtain ⟨mk, hnamed⟩ := Cond.code_named hcode
  obtain ⟨methM, cM, hmethM, -, -, -, -, -, -, hsigM⟩ := Cond.code_spec hnamed hcode
  have hstatic : methM.isStatic = true := Cond.static_spec hnamed hmethM hstat
  obtain ⟨kP, hkP, -⟩ := className_of_methodNamed hnamed
  have hinitP : kP.init = .initialized := Cond.initialized_spec (findClass_of_methodNamed hnamed) hkP hinit
  obtain ⟨vm₁, X₁, hstep₁⟩ := X.invokestatic hexec hown hlink hnamed hmethM hstatic hkP hinitP hy (g := g) hg (argsL := argsL) (rest := rest) (hlen _ hsigM) hstack hdg
  rcases hK m meth c ⟨T.setVm vm₁, locs, cells, slots⟩ { g with stack := rest } (.invokestatic index) mk argsL.toArray X₁ hg hsize hdg hW (X₁.named hnamed) (hpre vm₁ X₁.warmed) with ⟨v, B, X', hpost, hsteps⟩ | ⟨q, B, X', hpost, hsteps⟩
  · exact Or.inl ⟨v, vm₁, B, X₁.warmed, X', hpost, fun target h => hstep₁ _ fun acts => by rw [doInvoke_state]; exact hsteps.trans h⟩
  · exact Or.inr ⟨q, vm₁, B, X₁.warmed, X', hpost, hstep₁ _ fun acts => by rw [doInvoke_state]; exact hsteps⟩
end Calls
theorem vx_cls {s : State} {T : State} {vm₁ : Vm} {E : String} {k : ClassId} (hW : s.WarmedH vm₁) (h : (T.setVm vm₁).vm.findClass E = some k) : s.vm.findClass E = some k := by
  have h1 : vm₁.findClass E = some k := h
  rw [hW.alike.findClass] at h1
  exact h1
/-- the method's frame g, with q thrown over it -/
def vx_W (p : Program) (l : Launch) (e : Env) (R : Room) (s : State) (m : MethodId) (args : Array Value) (below : List Frame) (meth : Method) (c : Code) (H : Heap) (locs : List Loc) (cells slots : Nat) (Q : State → Prop) (g : JFrame) (q : Addr) : Prop :=
  ∀ T : State, T.heap = H → Stand p l e R s m args below meth c T locs cells slots → ∃ t, Steps p.tables e below ((T.setTop g).pushFrame (.throwing q)) t ∧ Q t
def vx_Run (p : Program) (l : Launch) (e : Env) (R : Room) (s : State) (m : MethodId) (args : Array Value) (below : List Frame) (meth : Method) (c : Code) (H : Heap) (locs : List Loc) (cells slots mc ms : Nat) (g : JFrame) (rest : List Value) (Qa : State → Outcome → State → Prop) (XC : String → State → State → Prop) (free : Addr → Prop) : Prop :=
  ∀ T : State, T.heap = H → Stand p l e R s m args below meth c T locs cells slots →
    (∃ (v : Option Value) (st₀ t T' : State) (L : List Loc), st₀.heap = H ∧ Stand p l e R s m args below meth c T' (locs ++ L) (cells + mc) (slots + ms) ∧ (∀ q ∈ L, free q.base) ∧ T'.heap = t.heap ∧ T'.vm = t.vm ∧ Qa st₀ (.returned v) t ∧
      Goes p e below T g T' { g with pc := g.pc + 3, stack := v.toList ++ rest }) ∨
    (∃ (q : Addr) (st₀ t T' : State) (L : List Loc) (E : String) (ce : Cell), st₀.heap = H ∧ Stand p l e R s m args below meth c T' (locs ++ L) (cells + mc) (slots + ms) ∧ (∀ z ∈ L, free z.base) ∧ T'.heap = t.heap ∧ T'.vm = t.vm ∧ XC E st₀ t ∧ t.heap[q]? = some ce ∧ ce.vm = .none ∧ s.vm.findClass E = some ce.cls ∧
      Steps p.tables e below (T.setTop g) ((T'.setTop { g with stack := rest }).pushFrame (.throwing q)))
def vx_X {S : Type} (px : S → Prop) (B : String → S → State → Prop) (A : Nat → Prop) : String → State → State → Prop := fun E st t => ∃ u : S, px u ∧ B E u t ∧ va_F A st t
section Runs
variable {p : Program} {l : Launch} {e : Env} {R : Room} {s : State} {m : MethodId} {args : Array Value} {below : List Frame} {meth : Method} {c : Code} {H : Heap} {locs : List Loc} {cells slots : Nat}
variable {y : MethodName} {bytes cc : ByteArray} {maxL nL mc ms n index : Nat} {ret : Option FieldType} {ws : List Cond} {rm : Room} {Pc : Array Value → State → Prop} {Qc : Array Value → State → Outcome → State → Prop} {XC : String → State → State → Prop} {free : Addr → Prop} {Ts : List Cond} {own C : String} {b : Addr} {As rest : List Value} {g : JFrame}
theorem vx_callBack (cb : CallB R s args own index y bytes maxL ret ws rm mc ms n) (hM : vx_Met l y ws rm Pc Qc XC mc ms free) (hbl : FrameBlind Pc) : vx_Back l R p e below s args y 3 8 (PreOf R mc ms Pc) (PostOf Qc mc ms free) (vx_Post XC mc ms free) := by
  obtain ⟨hrc, hrs, hfr, hlo, hws, hcw, -, hini, -⟩ := cb
  exact vx_back (bytes := bytes) (maxL := maxL) (ret := ret) hM hbl hrc hrs hfr hlo hws hcw (fun a' U hW => word_at hW (Or.inl (by first | rfl | simp [Cond.onTables, Cond.keeps, Cond.steady])) hini)
theorem vx_runV (S : CallFix p m c cc nL s args Ts own) (hM : vx_Met l y ws rm Pc Qc XC mc ms free) (cw : CallW R s args own C index y bytes maxL ret ws rm mc ms n) (hp : PreV s H C b Pc As)
    (hg : g.method = m) (hn : As.length = n) (hsize : g.locals.size = nL) (hstack : g.stack = As.reverse ++ .ref b :: rest) (hW : 2 * g.monitorRoom + (rest.map fun v => v.category).sum ≤ 8) (hdg : decode cc g.pc = .ok (.invokevirtual index, 3)) (hf : cells + mc ≤ R.cells ∧ slots + ms ≤ R.slots) :
    vx_Run p l e R s m args below meth c H locs cells slots mc ms g rest (Qc (Value.ref b :: As).toArray) XC free := by
  have hK : vx_Back l R p e below s args y 3 8 (PreOf R mc ms Pc) (PostOf Qc mc ms free) (vx_Post XC mc ms free) := vx_callBack cw.1 hM hp.1
  obtain ⟨⟨-, -, -, -, -, -, hcode, -, hy, hlen, hl⟩, hin, hse⟩ := cw
  obtain ⟨hx, hb, hml, ho, -⟩ := S
  obtain ⟨-, ⟨cellB, hcB, hoB, hclB⟩, hPc⟩ := hp
  intro T hT X
  rcases vx_callV X hx (C := C) (bytes := bytes) (maxL := maxL) (ret := ret) ho hl hin hse hcode hy hK (by rw [hT]; exact hcB) hoB hclB hg (hsize.trans hml.symm) (argsL := As) (rest := rest) (fun sig h => hn.trans (hlen sig h)) hstack hW (by rw [hb]; exact hdg)
    (fun vm₁ hW₁ => ⟨hf.1, hf.2, hPc (T.setVm vm₁) hT hW₁⟩) with ⟨v, vm₁, ⟨U', l2, c2, s2⟩, hW₁, X', ⟨g', mk, t, L, e1, e2, hq, h1, hL, h2, h3⟩, st⟩ | ⟨q, vm₁, ⟨U', l2, c2, s2⟩, hW₁, X', ⟨g', mk, t, L, E, ce, e1, e2, hq, hce, hcv, hcl, h1, hL, h2, h3⟩, st⟩
  · dsimp only [Pt.U, Pt.locs, Pt.cells, Pt.slots] at X' e1 e2 h1 h2 h3 st
    subst h1; subst h2; subst h3
    exact Or.inl ⟨v, (T.setVm vm₁).calling g' mk (Value.ref b :: As).toArray, t, U', L, hT, X', hL, e1, e2, hq, st⟩
  · dsimp only [Pt.U, Pt.locs, Pt.cells, Pt.slots] at X' e1 e2 h1 h2 h3 st hcl
    subst h1; subst h2; subst h3
    exact Or.inr ⟨q, (T.setVm vm₁).calling g' mk (Value.ref b :: As).toArray, t, U', L, E, ce, hT, X', hL, e1, e2, hq, hce, hcv, vx_cls hW₁ hcl, st⟩
theorem vx_runS (S : CallFix p m c cc nL s args Ts own) (hM : vx_Met l y ws rm Pc Qc XC mc ms free) (cw : CallB R s args own index y bytes maxL ret ws rm mc ms n ∧ (Cond.static y).before args s = true) (hp : PreS s H Pc As)
    (hg : g.method = m) (hn : As.length = n) (hsize : g.locals.size = nL) (hstack : g.stack = As.reverse ++ rest) (hW : 2 * g.monitorRoom + (rest.map fun v => v.category).sum ≤ 8) (hdg : decode cc g.pc = .ok (.invokestatic index, 3)) (hf : cells + mc ≤ R.cells ∧ slots + ms ≤ R.slots) :
    vx_Run p l e R s m args below meth c H locs cells slots mc ms g rest (Qc As.toArray) XC free := by
  have hK : vx_Back l R p e below s args y 3 8 (PreOf R mc ms Pc) (PostOf Qc mc ms free) (vx_Post XC mc ms free) := vx_callBack cw.1 hM hp.1
  obtain ⟨⟨-, -, -, -, -, -, hcode, hini, hy, hlen, hl⟩, hstt⟩ := cw
  obtain ⟨hx, hb, hml, ho, -⟩ := S
  intro T hT X
  rcases vx_callS X hx (bytes := bytes) (maxL := maxL) (ret := ret) ho hl hstt hini hcode hy hK hg (hsize.trans hml.symm) (argsL := As) (rest := rest) (fun sig h => hn.trans (hlen sig h)) hstack hW (by rw [hb]; exact hdg)
    (fun vm₁ hW₁ => ⟨hf.1, hf.2, hp.2 (T.setVm vm₁) hT hW₁⟩) with ⟨v, vm₁, ⟨U', l2, c2, s2⟩, hW₁, X', ⟨g', mk, t, L, e1, e2, hq, h1, hL, h2, h3⟩, st⟩ | ⟨q, vm₁, ⟨U', l2, c2, s2⟩, hW₁, X', ⟨g', mk, t, L, E, ce, e1, e2, hq, hce, hcv, hcl, h1, hL, h2, h3⟩, st⟩
  · dsimp only [Pt.U, Pt.locs, Pt.cells, Pt.slots] at X' e1 e2 h1 h2 h3 st
    subst h1; subst h2; subst h3
    exact Or.inl ⟨v, (T.setVm vm₁).calling g' mk As.toArray, t, U', L, hT, X', hL, e1, e2, hq, st⟩
  · dsimp only [Pt.U, Pt.locs, Pt.cells, Pt.slots] at X' e1 e2 h1 h2 h3 st hcl
    subst h1; subst h2; subst h3
    exact Or.inr ⟨q, (T.setVm vm₁).calling g' mk As.toArray, t, U', L, E, ce, hT, X', hL, e1, e2, hq, hce, hcv, vx_cls hW₁ hcl, st⟩
end Runs
section Rows
variable {p : Program} {l : Launch} {e : Env} {R : Room} {s : State} {m : MethodId} {args : Array Value} {below : List Frame} {meth : Method} {c : Code} {H : Heap} {locs : List Loc} {cells slots : Nat} {Q : State → Prop}
variable {mc ms : Nat} {free : Addr → Prop} {A0 A1 : Nat → Prop} {H0 : Heap} {a : Array Value} {pc : Nat} {ls : Array Slot} {st0 rest : List Value}
theorem vx_keep {st₀ t T' : State} {L : List Loc} (h0 : st₀.heap = H) (e1 : T'.heap = t.heap) (hS : va_S A0 H0 H locs) (hA : ∀ q, q < H.size → A1 q → A0 q) (hf : ∀ q, free q → A0 q) (hL : ∀ q ∈ L, free q.base) (hF : va_F A1 st₀ t) :
    H.size ≤ T'.heap.size ∧ (∀ q : Nat, q < H.size → ¬ A1 q → T'.heap[q]? = H[q]?) ∧ va_S A0 H0 T'.heap (locs ++ L) := by
  obtain ⟨hz, hk⟩ := hF
  rw [h0] at hz hk
  exact ⟨by rw [e1]; exact hz, fun q h1 h2 => by rw [e1]; exact hk q h1 h2,
    ⟨Nat.le_trans hS.1 (by rw [e1]; exact hz), fun q h1 h2 => by rw [e1, hk q (Nat.lt_of_lt_of_le h1 hS.1) (fun z => h2 (hA q (Nat.lt_of_lt_of_le h1 hS.1) z))]; exact hS.2.1 q h1 h2, fun q hq => by
      rcases List.mem_append.mp hq with h | h
      · exact hS.2.2 q h
      · exact hf _ (hL q h)⟩⟩
theorem vx_calli {S SX : Type} {post : Int32 → S → Prop} {px : SX → Prop} {B : S → State → Prop} {BX : String → SX → State → Prop} {AX : Nat → Prop} (hr : vx_Run p l e R s m args below meth c H locs cells slots mc ms (F0 m pc ls st0) rest (va_Qi post B A1 a) (vx_X px BX AX) free) (hS : va_S A0 H0 H locs) (hA : ∀ q, q < H.size → A1 q → A0 q) (hf : ∀ q, free q → A0 q) (hAX : ∀ q, q < H.size → AX q → A0 q)
    (kx : ∀ (E : String) (ce : Cell) (q9 : Addr) (u : SX) (t : State) (H1 : Heap) (locs1 : List Loc), t.heap = H1 → s.vm.Alike t.vm → px u → BX E u t → H.size ≤ H1.size → (∀ q : Nat, q < H.size → ¬ AX q → H1[q]? = H[q]?) → va_S A0 H0 H1 locs1 → H1[q9]? = some ce → ce.vm = .none → s.vm.findClass E = some ce.cls → vx_W p l e R s m args below meth c H1 locs1 (cells + mc) (slots + ms) Q (F0 m pc ls rest) q9)
    (kk : ∀ (r : Int32) (u : S) (t : State) (H1 : Heap) (locs1 : List Loc), t.heap = H1 → s.vm.Alike t.vm → post r u → B u t → H.size ≤ H1.size → (∀ q : Nat, q < H.size → ¬ A1 q → H1[q]? = H[q]?) → va_S A0 H0 H1 locs1 → W p l e R s m args below meth c H1 locs1 (cells + mc) (slots + ms) Q (F0 m (pc + 3) ls (.int r :: rest))) : W p l e R s m args below meth c H locs cells slots Q (F0 m pc ls st0) := by
  intro T hT X
  rcases hr T hT X with ⟨v, st₀, t, T', L, h0, X', hL, e1, e2, ⟨⟨r, u, hv, hp, hb⟩, hF⟩, st⟩ | ⟨q, st₀, t, T', L, E, ce, h0, X', hL, e1, e2, ⟨u, hp, hb, hF⟩, hce, hcv, hcl, st⟩
  · cases hv
    obtain ⟨k1, k2, k3⟩ := vx_keep h0 e1 hS hA hf hL hF
    obtain ⟨t2, a1, b1⟩ := kk r u t T'.heap (locs ++ L) e1.symm (by rw [← e2]; exact X'.warmed.alike) hp hb k1 k2 k3 T' rfl X'
    exact ⟨t2, st t2 a1, b1⟩
  · obtain ⟨k1, k2, k3⟩ := vx_keep h0 e1 hS hAX hf hL hF
    obtain ⟨t2, a1, b1⟩ := kx E ce q u t T'.heap (locs ++ L) e1.symm (by rw [← e2]; exact X'.warmed.alike) hp hb k1 k2 k3 (by rw [e1]; exact hce) hcv hcl T' rfl X'
    exact ⟨t2, st.trans a1, b1⟩
theorem vx_calll {S SX : Type} {post : Int64 → S → Prop} {px : SX → Prop} {B : S → State → Prop} {BX : String → SX → State → Prop} {AX : Nat → Prop} (hr : vx_Run p l e R s m args below meth c H locs cells slots mc ms (F0 m pc ls st0) rest (va_Ql post B A1 a) (vx_X px BX AX) free) (hS : va_S A0 H0 H locs) (hA : ∀ q, q < H.size → A1 q → A0 q) (hf : ∀ q, free q → A0 q) (hAX : ∀ q, q < H.size → AX q → A0 q)
    (kx : ∀ (E : String) (ce : Cell) (q9 : Addr) (u : SX) (t : State) (H1 : Heap) (locs1 : List Loc), t.heap = H1 → s.vm.Alike t.vm → px u → BX E u t → H.size ≤ H1.size → (∀ q : Nat, q < H.size → ¬ AX q → H1[q]? = H[q]?) → va_S A0 H0 H1 locs1 → H1[q9]? = some ce → ce.vm = .none → s.vm.findClass E = some ce.cls → vx_W p l e R s m args below meth c H1 locs1 (cells + mc) (slots + ms) Q (F0 m pc ls rest) q9)
    (kk : ∀ (r : Int64) (u : S) (t : State) (H1 : Heap) (locs1 : List Loc), t.heap = H1 → s.vm.Alike t.vm → post r u → B u t → H.size ≤ H1.size → (∀ q : Nat, q < H.size → ¬ A1 q → H1[q]? = H[q]?) → va_S A0 H0 H1 locs1 → W p l e R s m args below meth c H1 locs1 (cells + mc) (slots + ms) Q (F0 m (pc + 3) ls (.long r :: rest))) : W p l e R s m args below meth c H locs cells slots Q (F0 m pc ls st0) := by
  intro T hT X
  rcases hr T hT X with ⟨v, st₀, t, T', L, h0, X', hL, e1, e2, ⟨⟨r, u, hv, hp, hb⟩, hF⟩, st⟩ | ⟨q, st₀, t, T', L, E, ce, h0, X', hL, e1, e2, ⟨u, hp, hb, hF⟩, hce, hcv, hcl, st⟩
  · cases hv
    obtain ⟨k1, k2, k3⟩ := vx_keep h0 e1 hS hA hf hL hF
    obtain ⟨t2, a1, b1⟩ := kk r u t T'.heap (locs ++ L) e1.symm (by rw [← e2]; exact X'.warmed.alike) hp hb k1 k2 k3 T' rfl X'
    exact ⟨t2, st t2 a1, b1⟩
  · obtain ⟨k1, k2, k3⟩ := vx_keep h0 e1 hS hAX hf hL hF
    obtain ⟨t2, a1, b1⟩ := kx E ce q u t T'.heap (locs ++ L) e1.symm (by rw [← e2]; exact X'.warmed.alike) hp hb k1 k2 k3 (by rw [e1]; exact hce) hcv hcl T' rfl X'
    exact ⟨t2, st.trans a1, b1⟩
theorem vx_callf {S SX : Type} {post : UInt32 → S → Prop} {px : SX → Prop} {B : S → State → Prop} {BX : String → SX → State → Prop} {AX : Nat → Prop} (hr : vx_Run p l e R s m args below meth c H locs cells slots mc ms (F0 m pc ls st0) rest (va_Qf post B A1 a) (vx_X px BX AX) free) (hS : va_S A0 H0 H locs) (hA : ∀ q, q < H.size → A1 q → A0 q) (hf : ∀ q, free q → A0 q) (hAX : ∀ q, q < H.size → AX q → A0 q)
    (kx : ∀ (E : String) (ce : Cell) (q9 : Addr) (u : SX) (t : State) (H1 : Heap) (locs1 : List Loc), t.heap = H1 → s.vm.Alike t.vm → px u → BX E u t → H.size ≤ H1.size → (∀ q : Nat, q < H.size → ¬ AX q → H1[q]? = H[q]?) → va_S A0 H0 H1 locs1 → H1[q9]? = some ce → ce.vm = .none → s.vm.findClass E = some ce.cls → vx_W p l e R s m args below meth c H1 locs1 (cells + mc) (slots + ms) Q (F0 m pc ls rest) q9)
    (kk : ∀ (r : UInt32) (u : S) (t : State) (H1 : Heap) (locs1 : List Loc), t.heap = H1 → s.vm.Alike t.vm → post r u → B u t → H.size ≤ H1.size → (∀ q : Nat, q < H.size → ¬ A1 q → H1[q]? = H[q]?) → va_S A0 H0 H1 locs1 → W p l e R s m args below meth c H1 locs1 (cells + mc) (slots + ms) Q (F0 m (pc + 3) ls (.float r :: rest))) : W p l e R s m args below meth c H locs cells slots Q (F0 m pc ls st0) := by
  intro T hT X
  rcases hr T hT X with ⟨v, st₀, t, T', L, h0, X', hL, e1, e2, ⟨⟨r, u, hv, hp, hb⟩, hF⟩, st⟩ | ⟨q, st₀, t, T', L, E, ce, h0, X', hL, e1, e2, ⟨u, hp, hb, hF⟩, hce, hcv, hcl, st⟩
  · cases hv
    obtain ⟨k1, k2, k3⟩ := vx_keep h0 e1 hS hA hf hL hF
    obtain ⟨t2, a1, b1⟩ := kk r u t T'.heap (locs ++ L) e1.symm (by rw [← e2]; exact X'.warmed.alike) hp hb k1 k2 k3 T' rfl X'
    exact ⟨t2, st t2 a1, b1⟩
  · obtain ⟨k1, k2, k3⟩ := vx_keep h0 e1 hS hAX hf hL hF
    obtain ⟨t2, a1, b1⟩ := kx E ce q u t T'.heap (locs ++ L) e1.symm (by rw [← e2]; exact X'.warmed.alike) hp hb k1 k2 k3 (by rw [e1]; exact hce) hcv hcl T' rfl X'
    exact ⟨t2, st.trans a1, b1⟩
theorem vx_calld {S SX : Type} {post : UInt64 → S → Prop} {px : SX → Prop} {B : S → State → Prop} {BX : String → SX → State → Prop} {AX : Nat → Prop} (hr : vx_Run p l e R s m args below meth c H locs cells slots mc ms (F0 m pc ls st0) rest (va_Qd post B A1 a) (vx_X px BX AX) free) (hS : va_S A0 H0 H locs) (hA : ∀ q, q < H.size → A1 q → A0 q) (hf : ∀ q, free q → A0 q) (hAX : ∀ q, q < H.size → AX q → A0 q)
    (kx : ∀ (E : String) (ce : Cell) (q9 : Addr) (u : SX) (t : State) (H1 : Heap) (locs1 : List Loc), t.heap = H1 → s.vm.Alike t.vm → px u → BX E u t → H.size ≤ H1.size → (∀ q : Nat, q < H.size → ¬ AX q → H1[q]? = H[q]?) → va_S A0 H0 H1 locs1 → H1[q9]? = some ce → ce.vm = .none → s.vm.findClass E = some ce.cls → vx_W p l e R s m args below meth c H1 locs1 (cells + mc) (slots + ms) Q (F0 m pc ls rest) q9)
    (kk : ∀ (r : UInt64) (u : S) (t : State) (H1 : Heap) (locs1 : List Loc), t.heap = H1 → s.vm.Alike t.vm → post r u → B u t → H.size ≤ H1.size → (∀ q : Nat, q < H.size → ¬ A1 q → H1[q]? = H[q]?) → va_S A0 H0 H1 locs1 → W p l e R s m args below meth c H1 locs1 (cells + mc) (slots + ms) Q (F0 m (pc + 3) ls (.double r :: rest))) : W p l e R s m args below meth c H locs cells slots Q (F0 m pc ls st0) := by
  intro T hT X
  rcases hr T hT X with ⟨v, st₀, t, T', L, h0, X', hL, e1, e2, ⟨⟨r, u, hv, hp, hb⟩, hF⟩, st⟩ | ⟨q, st₀, t, T', L, E, ce, h0, X', hL, e1, e2, ⟨u, hp, hb, hF⟩, hce, hcv, hcl, st⟩
  · cases hv
    obtain ⟨k1, k2, k3⟩ := vx_keep h0 e1 hS hA hf hL hF
    obtain ⟨t2, a1, b1⟩ := kk r u t T'.heap (locs ++ L) e1.symm (by rw [← e2]; exact X'.warmed.alike) hp hb k1 k2 k3 T' rfl X'
    exact ⟨t2, st t2 a1, b1⟩
  · obtain ⟨k1, k2, k3⟩ := vx_keep h0 e1 hS hAX hf hL hF
    obtain ⟨t2, a1, b1⟩ := kx E ce q u t T'.heap (locs ++ L) e1.symm (by rw [← e2]; exact X'.warmed.alike) hp hb k1 k2 k3 (by rw [e1]; exact hce) hcv hcl T' rfl X'
    exact ⟨t2, st.trans a1, b1⟩
theorem vx_callv {S SX : Type} {post : S → Prop} {px : SX → Prop} {B : S → State → Prop} {BX : String → SX → State → Prop} {AX : Nat → Prop} (hr : vx_Run p l e R s m args below meth c H locs cells slots mc ms (F0 m pc ls st0) rest (va_Qv post B A1 a) (vx_X px BX AX) free) (hS : va_S A0 H0 H locs) (hA : ∀ q, q < H.size → A1 q → A0 q) (hf : ∀ q, free q → A0 q) (hAX : ∀ q, q < H.size → AX q → A0 q)
    (kx : ∀ (E : String) (ce : Cell) (q9 : Addr) (u : SX) (t : State) (H1 : Heap) (locs1 : List Loc), t.heap = H1 → s.vm.Alike t.vm → px u → BX E u t → H.size ≤ H1.size → (∀ q : Nat, q < H.size → ¬ AX q → H1[q]? = H[q]?) → va_S A0 H0 H1 locs1 → H1[q9]? = some ce → ce.vm = .none → s.vm.findClass E = some ce.cls → vx_W p l e R s m args below meth c H1 locs1 (cells + mc) (slots + ms) Q (F0 m pc ls rest) q9)
    (kk : ∀ (u : S) (t : State) (H1 : Heap) (locs1 : List Loc), t.heap = H1 → s.vm.Alike t.vm → post u → B u t → H.size ≤ H1.size → (∀ q : Nat, q < H.size → ¬ A1 q → H1[q]? = H[q]?) → va_S A0 H0 H1 locs1 → W p l e R s m args below meth c H1 locs1 (cells + mc) (slots + ms) Q (F0 m (pc + 3) ls (rest))) : W p l e R s m args below meth c H locs cells slots Q (F0 m pc ls st0) := by
  intro T hT X
  rcases hr T hT X with ⟨v, st₀, t, T', L, h0, X', hL, e1, e2, ⟨⟨u, hv, hp, hb⟩, hF⟩, st⟩ | ⟨q, st₀, t, T', L, E, ce, h0, X', hL, e1, e2, ⟨u, hp, hb, hF⟩, hce, hcv, hcl, st⟩
  · cases hv
    obtain ⟨k1, k2, k3⟩ := vx_keep h0 e1 hS hA hf hL hF
    obtain ⟨t2, a1, b1⟩ := kk u t T'.heap (locs ++ L) e1.symm (by rw [← e2]; exact X'.warmed.alike) hp hb k1 k2 k3 T' rfl X'
    exact ⟨t2, st t2 a1, b1⟩
  · obtain ⟨k1, k2, k3⟩ := vx_keep h0 e1 hS hAX hf hL hF
    obtain ⟨t2, a1, b1⟩ := kx E ce q u t T'.heap (locs ++ L) e1.symm (by rw [← e2]; exact X'.warmed.alike) hp hb k1 k2 k3 (by rw [e1]; exact hce) hcv hcl T' rfl X'
    exact ⟨t2, st.trans a1, b1⟩
end Rows
section Ends
variable {p : Program} {l : Launch} {e : Env} {R : Room} {s : State} {m : MethodId} {args : Array Value} {below : List Frame} {meth : Method} {c : Code} {H : Heap} {locs : List Loc} {cells slots : Nat} {Q : State → Prop}
variable {mc ms : Nat} {free : Addr → Prop} {A0 A1 : Nat → Prop} {H0 : Heap} {a : Array Value} {ls : Array Slot} {st0 rest : List Value}
variable {Qc : Array Value → State → Outcome → State → Prop} {XC : String → State → State → Prop}
/-- what a body that may throw owes at its end -/
def vx_MQ (below : List Frame) (Qc : Array Value → State → Outcome → State → Prop) (XC : String → State → State → Prop) (a : Array Value) (s : State) (mc ms : Nat) (free : Addr → Prop) : State → Prop := fun t =>
  ∃ o, t.status = .running ∧ Ended t below o ∧ vx_Q Qc XC mc ms free a s o t
theorem vx_ret {g : JFrame} {mc ms : Nat} (k : W p l e R s m args below meth c H locs cells slots (MQ below Qc args s mc ms free) g) : W p l e R s m args below meth c H locs cells slots (vx_MQ below Qc XC args s mc ms free) g := by
  intro T hT X
  obtain ⟨t, a1, o, b1, b2, b3, b4⟩ := k T hT X
  exact ⟨t, a1, o, b1, b2, Or.inl ⟨b3, b4⟩⟩
/-- not caught here: it goes on to the caller -/
theorem vx_widen {g : JFrame} {q : Addr} {k n : Nat} (h1 : cells ≤ k) (h2 : slots ≤ n) (kk : vx_W p l e R s m args below meth c H locs k n Q g q) : vx_W p l e R s m args below meth c H locs cells slots Q g q := fun T hT X => kk T hT (stand_widen X h1 h2)
theorem vx_out {pc : Nat} {E : String} {ce : Cell} {q : Addr} {mc ms : Nat} (hout : ∀ x ∈ c.exceptionTable.toList, covers x pc = false) (hlocks : meth.locks = false) (hcell : H[q]? = some ce) (hv : ce.vm = .none) (hcl : s.vm.findClass E = some ce.cls)
    (hx : ∀ t : State, t.heap = H → s.vm.Alike t.vm → XC E s t) (hf : ∀ z ∈ locs, free z.base) (hc : cells ≤ mc) (hs : slots ≤ ms) :
    vx_W p l e R s m args below meth c H locs cells slots (vx_MQ below Qc XC args s mc ms free) (F0 m pc ls rest) q := by
  intro T hT X
  obtain ⟨st1, hrun, hend, hW, hsm⟩ := X.leaveThrown q (g := F0 m pc ls rest) rfl rfl rfl hout hlocks
  have hcell9 : (T.setFrames (.throwing q :: below)).heap[q]? = some ce := by
    show T.heap[q]? = some ce
    rw [hT]; exact hcell
  exact ⟨_, st1, .threw q, hrun, hend, Or.inr ⟨q, rfl, E, ce, locs, hx _ hT hW.alike, hcell9, hv, hcl, hW, hsm.mono hc hs, hf⟩⟩
theorem vx_frame {U : State} {k n : Nat} (h : s.sameButNew ({ U with vm := s.vm } : State) locs k n) : s.heap.size ≤ U.heap.size ∧ ∀ q : Nat, q < s.heap.size → (∀ z ∈ locs, z.base ≠ q) → U.heap[q]? = s.heap[q]? := by
  obtain ⟨-, h2, -, -, -, h6⟩ := h
  refine ⟨h2, fun q hq hz => ?_⟩
  obtain ⟨c9, e1, e2, e3, e4⟩ := h6 q _ (Array.getElem?_eq_getElem hq)
  have hs : c9.slots = (s.heap[q]).slots := Array.ext_getElem? fun i => e4 i fun hm => hz _ hm rfl
  have h9 : c9 = s.heap[q] := by
    rw [hs] at e2
    exact e2
  have e5 : U.heap[q]? = some c9 := e1
  rw [e5, h9, Array.getElem?_eq_getElem hq]
/-- the words of a throw but the four that speak of the heap -/
def vx_no (w : Cond) : Bool := decide (w ≠ .isRef (.static Bundle.tN "UNASSIGNED_STACK" Bundle.steD)) && decide (w ≠ .isRef (.static Bundle.tN "SUPPRESSED_SENTINEL" Bundle.listD)) && decide (w ≠ .laysStatic Bundle.tN "UNASSIGNED_STACK" Bundle.steD) && decide (w ≠ .laysStatic Bundle.tN "SUPPRESSED_SENTINEL" Bundle.listD)
def vx_at0 (own : String) (ic : Nat) (X : String) (names : List String) : List Cond := (Bundle.ownAtoms0 own ic X names).filter vx_no
def vx_atS (own : String) (ic : Nat) (X : String) (names : List String) : List Cond := (Bundle.ownAtoms own ic X names).filter vx_no
/-- a word that the tables alone decide, or a good one -/
def vx_ot (w : Cond) : Bool := w.onTables || goodWord w
theorem vx_ot_at {args a' : Array Value} {s U : State} {w : Cond} (hW : s.WarmedH U.vm) (hvm : s.vm = U.vm) (hg : vx_ot w = true) (h : w.before args s = true) : w.before a' U = true := by
  simp only [vx_ot, Bool.or_eq_true] at hg
  rcases hg with hg | hg
  · exact va_tabs hg hvm h
  · exact word_at hW (good_of_word hg) h
/-- a list's words: the good ones out of the method's own list, the others by premises of their own -/
theorem vx_hat {args : Array Value} {s : State} {L B : List Cond} (h1 : ∀ w ∈ L.filter goodWord, w.before args s = true) (h2 : ∀ w ∈ L.filter (fun w => !goodWord w), w ∈ B) (h3 : ∀ w ∈ B, w.before args s = true) : ∀ w ∈ L, w.before args s = true := by
  intro w hw
  by_cases g : goodWord w = true
  · exact h1 w (List.mem_filter.mpr ⟨hw, g⟩)
  · refine h3 w (h2 w (List.mem_filter.mpr ⟨hw, ?_⟩))
    show (!goodWord w) = true
    cases hgw : goodWord w
    · rfl
    · exact absurd hgw g
theorem vx_c {args : Array Value} {s : State} {w : Cond} {B : List Cond} (h : w.before args s = true) (t : ∀ w ∈ B, w.before args s = true) : ∀ w' ∈ w :: B, w'.before args s = true := fun w' h' => (List.mem_cons.mp h').elim (fun e => by rw [e]; exact h) (t w')
theorem vx_n {args : Array Value} {s : State} : ∀ w ∈ ([] : List Cond), w.before args s = true := fun _ h => nomatch h
theorem vx_own {args : Array Value} {s : State} {L : List Cond} (h1 : ∀ w ∈ L.filter vx_no, w.before args s = true)
    (hU : (Cond.isRef (.static Bundle.tN "UNASSIGNED_STACK" Bundle.steD)).before args s = true) (hN : (Cond.isRef (.static Bundle.tN "SUPPRESSED_SENTINEL" Bundle.listD)).before args s = true)
    (lU : (Cond.laysStatic Bundle.tN "UNASSIGNED_STACK" Bundle.steD).before args s = true) (lN : (Cond.laysStatic Bundle.tN "SUPPRESSED_SENTINEL" Bundle.listD).before args s = true) : ∀ w ∈ L, w.before args s = true := by
  intro w hw
  by_cases e1 : w = .isRef (.static Bundle.tN "UNASSIGNED_STACK" Bundle.steD)
  · rw [e1]; exact hU
  · by_cases e2 : w = .isRef (.static Bundle.tN "SUPPRESSED_SENTINEL" Bundle.listD)
    · rw [e2]; exact hN
    · by_cases e3 : w = .laysStatic Bundle.tN "UNASSIGNED_STACK" Bundle.steD
      · rw [e3]; exact lU
      · by_cases e4 : w = .laysStatic Bundle.tN "SUPPRESSED_SENTINEL" Bundle.listD
        · rw [e4]; exact lN
        · exact h1 w (List.mem_filter.mpr ⟨hw, by unfold vx_no; rw [decide_eq_true e1, decide_eq_true e2, decide_eq_true e3, decide_eq_true e4]; rfl⟩)
/-- where a static field lies, its class's statics cell in H -/
def vx_L (C n d : String) (A : Nat → Prop) (U : State) (H : Heap) : Prop := ∃ (c : ClassId) (k : Class) (i : Nat) (f : Field) (a : Nat) (cell : Cell), U.vm.findClass C = some c ∧ U.fieldFound? C n d = some (c, k, i, f) ∧ f.isStatic = true ∧ k.statics = some a ∧ H[a]? = some cell ∧ cell.vm.isStatics = true ∧ cell.cls = c ∧ f.slot < cell.slots.size ∧ k.staticTypes[f.slot]? = some f.type ∧ ¬ A a
theorem vx_L.moved {C n d : String} {A : Nat → Prop} {u U : State} {H : Heap} (hvm : u.vm.Alike U.vm) (h : vx_L C n d A u H) : vx_L C n d A U H := by
  obtain ⟨c, k, i, f, a, cell, h1, h2, h3, h4, h5, h6, h7, h8, h9, h10⟩ := h
  obtain ⟨k', hi', he⟩ := State.fieldFound?_setVm hvm h2
  exact ⟨c, k', i, f, a, cell, by rw [hvm.findClass]; exact h1, hi', h3, by rw [he]; exact h4, h5, h6, h7, h8, by rw [he]; exact h9, h10⟩
theorem vx_L.kept {C n d : String} {A : Nat → Prop} {U : State} {H H1 : Heap} (h : vx_L C n d A U H) (hq : ∀ a : Nat, a < H.size → ¬ A a → H1[a]? = H[a]?) : vx_L C n d A U H1 := by
  obtain ⟨c, k, i, f, a, cell, h1, h2, h3, h4, h5, h6, h7, h8, h9, h10⟩ := h
  exact ⟨c, k, i, f, a, cell, h1, h2, h3, h4, by rw [hq a (Array.getElem?_eq_some_iff.mp h5).1 h10]; exact h5, h6, h7, h8, h9, h10⟩
theorem vx_L.narrow {C n d : String} {A B : Nat → Prop} {U : State} {H : Heap} (h : vx_L C n d A U H) (hAB : ∀ q, B q → A q) : vx_L C n d B U H := by
  obtain ⟨c, k, i, f, a, cell, h1, h2, h3, h4, h5, h6, h7, h8, h9, h10⟩ := h
  exact ⟨c, k, i, f, a, cell, h1, h2, h3, h4, h5, h6, h7, h8, h9, fun z => h10 (hAB _ z)⟩
theorem vx_L.word {C n d : String} {A : Nat → Prop} {s : State} {args : Array Value} (h : vx_L C n d A s s.heap) : (Cond.laysStatic C n d).before args s = true := by
  obtain ⟨c, k, i, f, a, cell, h1, h2, h3, h4, h5, h6, h7, h8, h9, -⟩ := h
  show (Cond.laysStatic C n d).holds args s none s [] = true
  exact Cond.laysStatic_of h1 h2 h3 h4 h5 h6 h7 h8 h9
/-- .. and what it holds: null or some reference -/
def vx_Zq (C n d : String) (A : Nat → Prop) (U : State) (H : Heap) : Prop := va_Zq C n d A U H ∧ vx_L C n d A U H
theorem vx_Zq.moved {C n d : String} {A : Nat → Prop} {u U : State} {H : Heap} (hvm : u.vm.Alike U.vm) (h : vx_Zq C n d A u H) : vx_Zq C n d A U H := ⟨va_Zq.moved hvm h.1, vx_L.moved hvm h.2⟩
theorem vx_Zq.kept {C n d : String} {A : Nat → Prop} {U : State} {H H1 : Heap} (h : vx_Zq C n d A U H) (hq : ∀ a : Nat, a < H.size → ¬ A a → H1[a]? = H[a]?) : vx_Zq C n d A U H1 := ⟨va_Zq.kept h.1 hq, vx_L.kept h.2 hq⟩
theorem vx_Zq.narrow {C n d : String} {A B : Nat → Prop} {U : State} {H : Heap} (h : vx_Zq C n d A U H) (hAB : ∀ q, B q → A q) : vx_Zq C n d B U H := ⟨va_Zq.narrow h.1 hAB, vx_L.narrow h.2 hAB⟩
theorem vx_Zqof {args : Array Value} {s : State} {C n d : String} {A : Nat → Prop} (hl : (Cond.laysStatic C n d).before args s = true) (hini : (Cond.initialized C).before args s = true) (h : (Cond.isRef (.static C n d)).before args s = true) (hA : ∀ a : Nat, a < s.heap.size → ¬ A a) : vx_Zq C n d A s s.heap := by
  refine ⟨va_Zqof hl hini h hA, ?_⟩
  obtain ⟨c, k, i, f, a, cell, h1, h2, h3, h4, h5, h6, h7, h8, h9⟩ := Cond.laysStatic_spec hl
  exact ⟨c, k, i, f, a, cell, h1, h2, h3, h4, h5, h6, h7, h8, h9, hA a (Array.getElem?_eq_some_iff.mp h5).1⟩
theorem vx_isRef {C n d : String} {v : Value} {A : Nat → Prop} {s : State} {args : Array Value} (h : va_Z C n d v A s s.heap) (hv : v.isRef = true) : (Cond.isRef (.static C n d)).before args s = true := by
  obtain ⟨cf, kf, fi, f, a, cell, h1, h2, h3, h4, h5, h6, h7, -⟩ := h
  have he : (Term.static C n d).eval args s none [] s = some v := by
    simp [Term.eval, State.fieldNamed?, h1, h2, h4, h5, h6, h7]
  simp only [Cond.before, Cond.holds, Cond.value, he]
  cases v <;> simp_all [Value.isRef]
theorem vx_isRefq {C n d : String} {A : Nat → Prop} {s : State} {args : Array Value} (h : va_Zq C n d A s s.heap) : (Cond.isRef (.static C n d)).before args s = true := by
  rcases h with h | ⟨t, h⟩
  · exact vx_isRef h rfl
  · exact vx_isRef h rfl
/-- the same frame, seen from here: as if the method were called anew in this heap -/
theorem vx_rebase {T : State} (X : Stand p l e R s m args below meth c T locs cells slots) {R' : Room} (hf : R'.frames ≤ R.frames) (hl : R'.locals ≤ R.locals) (hc : cells + R'.cells ≤ R.cells) (hs : slots + R'.slots ≤ R.slots) :
    Stand p l e R' ((T.setVm s.vm).setFrames (.invoking m args :: below)) m args below meth c T [] 0 0 := by
  have htop : (T.setVm s.vm).topJava?.isSome := X.here.top
  have hF : ((T.setVm s.vm).setFrames (.invoking m args :: below)).frames = .invoking m args :: below := State.frames_setFrames _ (State.cur_lt_of_top htop)
  obtain ⟨g₀, hg0⟩ := Option.isSome_iff_exists.mp htop
  obtain ⟨r, hr⟩ := State.topJava?_eq_some.mp hg0
  have hl9 : e.platform.stackLimits (T.setVm s.vm).me = e.platform.stackLimits s.me := X.limits
  have hb9 : (T.setVm s.vm).me.stackBytes = s.me.stackBytes := X.bytes
  refine ⟨X.admits, X.cas, X.clock, hF, ?_, X.hears, X.method, X.code, X.here, X.tail, X.warmed, ?_, ?_, ?_⟩
  · have h := X.room
    have hU : ((T.setVm s.vm).setFrames (.invoking m args :: below)).localsInUse = s.localsInUse := by
      rw [State.localsInUse_invoking hF (meth := meth) (c := c) X.method X.code, State.localsInUse_invoking X.frames X.method X.code]
    simp only [State.hasRoom, Bool.and_eq_true, decide_eq_true_eq] at h ⊢
    obtain ⟨⟨⟨⟨h1, h2, h3, h4, h5, h6⟩, h7⟩, h8⟩, h9⟩ := h
    rw [X.frames, List.length_cons] at h2 h3
    have q1 := X.heapSize
    have q2 := X.used
    simp only [hF, hU, List.length_cons, State.stackLimits_setFrames, State.stackBytes_setFrames, hl9, hb9]
    refine ⟨⟨⟨⟨by omega, by omega, by omega, by omega, by omega, h6⟩, ?_⟩, ?_⟩, X.book⟩
    · show T.heap.size + R'.cells ≤ e.platform.maxCells
      omega
    · show T.slotsUsed + R'.slots ≤ e.platform.maxSlots
      omega
  · rw [State.stackLimits_setFrames]; rfl
  · rw [State.stackBytes_setFrames]; rfl
  · refine ⟨?_, Nat.le_refl _, Nat.le_refl _, ?_, ?_, fun a c9 h9 => ⟨c9, h9, rfl, rfl, fun _ _ => rfl⟩⟩
    · obtain ⟨t, ht, -⟩ := State.frames_cons hr
      show T.setVm s.vm = { ((T.setVm s.vm).setFrames (.invoking m args :: below)).setFrames (T.setVm s.vm).frames with heap := T.heap, slotsUsed := T.slotsUsed }
      rw [State.setFrames_setFrames, State.setFrames_self ht]
      rfl
    · show T.slotsUsed = T.slotsUsed + ((T.heap.toList.drop T.heap.size).map (·.slots.size)).sum
      rw [List.drop_eq_nil_of_le (Nat.le_of_eq Array.length_toList)]
      rfl
    · show ((T.heap.toList.drop T.heap.size).map (·.slots.size)).sum ≤ 0
      rw [List.drop_eq_nil_of_le (Nat.le_of_eq Array.length_toList)]
      exact Nat.le_refl _
/-- 'throw new E()': new; dup; invokespecial; athrow -/
theorem vx_throw0 {cc : ByteArray} {pc : Nat} (hexec : p.tables.exec = Jvm.exec) (hb : c.code = cc) (hl : l.stackTraces = false) {own cls : String} {names : List String} {ik ic mc ms : Nat} {A : Nat → Prop}
    (hown : s.vm.findClass own = some m.cls) (hcls : Bundle.fit cls = true) (hnames : ∀ n ∈ names, Bundle.fit n = true)
    (hk : (Cond.classLink own ik cls).before args s = true) (hini : (Cond.initialized cls).before args s = true) (hat : ∀ w ∈ vx_at0 own ic cls names, w.before args s = true)
    (hgood : ∀ w ∈ Cond.classLink own ik cls :: Cond.initialized cls :: vx_at0 own ic cls names, vx_ot w = true)
    (hU : vx_Zq Bundle.tN "UNASSIGNED_STACK" Bundle.steD A s s.heap) (hN : vx_Zq Bundle.tN "SUPPRESSED_SENTINEL" Bundle.listD A s s.heap) (hS : va_S A s.heap H locs) (hsize : ls.size = c.maxLocals)
    (d0 : decode cc pc = .ok (.new ik, 3)) (d3 : decode cc (pc + 3) = .ok (.dup, 1)) (d4 : decode cc (pc + 4) = .ok (.invokespecial ic, 3)) (d7 : decode cc (pc + 7) = .ok (.athrow, 1))
    (hout : ∀ x ∈ c.exceptionTable.toList, covers x (pc + 7) = false)
    (hRframes : names.length + 3 < R.frames) (hRlocals : (rest.map fun v => v.category).sum + (13 * (names.length + 1) + 42) ≤ R.locals) (hRcells : cells + 1 ≤ R.cells) (hRslots : slots + 6 ≤ R.slots) (hlocks : meth.locks = false)
    (hx : ∀ t : State, s.vm.Alike t.vm → H.size ≤ t.heap.size → (∀ q : Nat, q < H.size → t.heap[q]? = H[q]?) → XC cls s t)
    (hf : ∀ z ∈ locs, free z.base) (hc : cells + 1 ≤ mc) (hs : slots + 6 ≤ ms) :
    W p l e R s m args below meth c H locs cells slots (vx_MQ below Qc XC args s mc ms free) (F0 m pc ls rest) := by
  intro T hT X
  have htr : e.platform.stackTraces = false := (show e.platform.stackTraces = l.stackTraces by rw [X.admits.platform]).trans hl
  have Y := vx_rebase X (R' := { frames := R.frames, locals := R.locals, cells := 1, slots := 6 }) (Nat.le_refl _) (Nat.le_refl _) hRcells hRslots
  obtain ⟨s', hA⟩ : ∃ z, z = (T.setVm s.vm).setFrames (.invoking m args :: below) := ⟨_, rfl⟩
  rw [← hA] at Y
  have hvm : s'.vm = s.vm := by rw [hA]; rfl
  have hhp : s'.heap = H := by rw [hA]; exact hT
  have hW0 : s.WarmedH s'.vm := by rw [hvm]; exact State.WarmedH.refl s
  have hat' : ∀ w ∈ vx_at0 own ic cls names, w.before args s' = true := fun w hw => vx_ot_at hW0 hvm.symm (hgood w (List.mem_cons_of_mem _ (List.mem_cons_of_mem _ hw))) (hat w hw)
  have hk' : (Cond.classLink own ik cls).before args s' = true := vx_ot_at hW0 hvm.symm (hgood _ List.mem_cons_self) hk
  have hini' : (Cond.initialized cls).before args s' = true := vx_ot_at hW0 hvm.symm (hgood _ (List.mem_cons_of_mem _ List.mem_cons_self)) hini
  have hU' : vx_Zq Bundle.tN "UNASSIGNED_STACK" Bundle.steD A s' s'.heap := by rw [hhp]; exact vx_Zq.moved hW0.alike (hU.kept hS.2.1)
  have hN' : vx_Zq Bundle.tN "SUPPRESSED_SENTINEL" Bundle.listD A s' s'.heap := by rw [hhp]; exact vx_Zq.moved hW0.alike (hN.kept hS.2.1)
  have h : ∀ w ∈ Bundle.ownAtoms0 own ic cls names, w.before args s' = true := vx_own hat' (vx_isRefq hU'.1) (vx_isRefq hN'.1) hU'.2.word hN'.2.word
  have hown' : s'.vm.findClass own = some m.cls := by rw [hvm]; exact hown
  have hins : (Cond.instantiable cls 6).before args s' = true := h _ (by simp [Bundle.ownAtoms0])
  obtain ⟨vm₁, cX, kX, hfX, hkX, -, -, X₁, st1⟩ := Y.newCold hexec (own := own) (C := cls) (index := ik) (n := 6) hown' hk' hins hini'
    (g := F0 m pc ls rest) rfl (by rw [hb]; exact d0) (Nat.le_refl _) (Nat.le_refl _)
  generalize hT1 : (T.setVm vm₁).pushCell { cls := cX, slots := kX.instanceTypes.map defaultValue, vm := .none } = T1 at X₁ st1
  have hcat : (Value.ref T.heap.size).category = 1 := rfl
  have hcellA : T1.heap[T.heap.size]? = some (freshCell cX kX) := by rw [← hT1]; exact State.heap_pushCell_size _ _
  have d3' : decode c.code (pc + 3) = .ok (.dup, 1) := by rw [hb]; exact d3
  obtain ⟨U, hsteps, hrun, hend, hW, hsame, ce, hce, hO⟩ := X₁.ctorThrow0 hexec htr (own := own) (cls := cls) (names := names) (ic := ic) hown' hcls hnames h (fun x hx => nomatch hx) hfX hkX hcellA (by rw [hhp, hT]; exact Nat.le_refl _)
    (g := { method := m, pc := pc + 4, locals := ls, stack := .ref T.heap.size :: .ref T.heap.size :: rest, locked := none }) rfl hsize rfl rfl (rest := rest) rfl
    (by rw [hb]; exact d4) (by rw [hb]; exact d7) hout hRframes (by simp only [List.map_cons, List.sum_cons, hcat]; omega) hlocks
  obtain ⟨f1, f2⟩ := vx_frame hsame
  rw [hhp] at f1 f2
  have hWs : s.WarmedH U.vm := State.WarmedH.trans hW0 hW
  have hcl : s.vm.findClass cls = some ce.cls := by
    have h9 := hO.cls
    rw [hvm] at h9
    exact h9
  have hall : s.sameButNew ({ U with vm := s.vm } : State) locs mc ms := by
    subst hA
    obtain ⟨e1, e2⟩ := hsame
    rw [State.setFrames_setFrames] at e1
    have h2 : (T.setVm s.vm).sameButNew ({ U with vm := s.vm } : State) [] (0 + 1) (0 + 6) := ⟨e1, e2⟩
    have h3 := X.same.trans h2
    rw [List.append_nil] at h3
    exact h3.mono hc hs
  refine ⟨U, ?_, .threw T.heap.size, hrun, hend, Or.inr ⟨T.heap.size, rfl, cls, ce, locs, hx U hWs.alike f1 (fun q hq => f2 q hq (fun z hz => nomatch hz)), hce, hO.vm, hcl, hWs, hall, hf⟩⟩
  refine st1 _ ?_
  show Steps p.tables e below (T1.setTop { method := m, pc := pc + 3, locals := ls, stack := .ref T.heap.size :: rest, locked := none }) _
  jvm_step X₁.here [X₁.here.top, hexec, d3', Value.category]
  exact hsteps
/-- 'throw new E("text")': new; dup; ldc; invokespecial; athrow -/
theorem vx_throwS {cc : ByteArray} {pc : Nat} (hexec : p.tables.exec = Jvm.exec) (hb : c.code = cc) (hl : l.stackTraces = false) {own cls text : String} {names : List String} {ik is ic mc ms sa : Nat} {A : Nat → Prop}
    (hown : s.vm.findClass own = some m.cls) (hcls : Bundle.fit cls = true) (hnames : ∀ n ∈ names, Bundle.fit n = true)
    (hk : (Cond.classLink own ik cls).before args s = true) (hini : (Cond.initialized cls).before args s = true) (hstr : vk_R own is text sa s) (hat : ∀ w ∈ vx_atS own ic cls names, w.before args s = true)
    (hgood : ∀ w ∈ Cond.classLink own ik cls :: Cond.initialized cls :: vx_atS own ic cls names, vx_ot w = true)
    (hU : vx_Zq Bundle.tN "UNASSIGNED_STACK" Bundle.steD A s s.heap) (hN : vx_Zq Bundle.tN "SUPPRESSED_SENTINEL" Bundle.listD A s s.heap) (hS : va_S A s.heap H locs) (hsize : ls.size = c.maxLocals)
    (d0 : decode cc pc = .ok (.new ik, 3)) (d3 : decode cc (pc + 3) = .ok (.dup, 1)) (d4 : decode cc (pc + 4) = .ok (.ldc is, 2)) (d6 : decode cc (pc + 6) = .ok (.invokespecial ic, 3)) (d9 : decode cc (pc + 9) = .ok (.athrow, 1))
    (hout : ∀ x ∈ c.exceptionTable.toList, covers x (pc + 9) = false)
    (hRframes : names.length + 3 < R.frames) (hRlocals : (rest.map fun v => v.category).sum + (13 * (names.length + 1) + 43) ≤ R.locals) (hRcells : cells + 1 ≤ R.cells) (hRslots : slots + 6 ≤ R.slots) (hlocks : meth.locks = false)
    (hx : ∀ t : State, s.vm.Alike t.vm → H.size ≤ t.heap.size → (∀ q : Nat, q < H.size → t.heap[q]? = H[q]?) → XC cls s t)
    (hf : ∀ z ∈ locs, free z.base) (hc : cells + 1 ≤ mc) (hs : slots + 6 ≤ ms) :
    W p l e R s m args below meth c H locs cells slots (vx_MQ below Qc XC args s mc ms free) (F0 m pc ls rest) := by
  intro T hT X
  have htr : e.platform.stackTraces = false := (show e.platform.stackTraces = l.stackTraces by rw [X.admits.platform]).trans hl
  have Y := vx_rebase X (R' := { frames := R.frames, locals := R.locals, cells := 1, slots := 6 }) (Nat.le_refl _) (Nat.le_refl _) hRcells hRslots
  obtain ⟨s', hA⟩ : ∃ z, z = (T.setVm s.vm).setFrames (.invoking m args :: below) := ⟨_, rfl⟩
  rw [← hA] at Y
  have hvm : s'.vm = s.vm := by rw [hA]; rfl
  have hhp : s'.heap = H := by rw [hA]; exact hT
  have hW0 : s.WarmedH s'.vm := by rw [hvm]; exact State.WarmedH.refl s
  have hat' : ∀ w ∈ vx_atS own ic cls names, w.before args s' = true := fun w hw => vx_ot_at hW0 hvm.symm (hgood w (List.mem_cons_of_mem _ (List.mem_cons_of_mem _ hw))) (hat w hw)
  have hk' : (Cond.classLink own ik cls).before args s' = true := vx_ot_at hW0 hvm.symm (hgood _ List.mem_cons_self) hk
  have hini' : (Cond.initialized cls).before args s' = true := vx_ot_at hW0 hvm.symm (hgood _ (List.mem_cons_of_mem _ List.mem_cons_self)) hini
  have hU' : vx_Zq Bundle.tN "UNASSIGNED_STACK" Bundle.steD A s' s'.heap := by rw [hhp]; exact vx_Zq.moved hW0.alike (hU.kept hS.2.1)
  have hN' : vx_Zq Bundle.tN "SUPPRESSED_SENTINEL" Bundle.listD A s' s'.heap := by rw [hhp]; exact vx_Zq.moved hW0.alike (hN.kept hS.2.1)
  have h : ∀ w ∈ Bundle.ownAtoms own ic cls names, w.before args s' = true := vx_own hat' (vx_isRefq hU'.1) (vx_isRefq hN'.1) hU'.2.word hN'.2.word
  have hown' : s'.vm.findClass own = some m.cls := by rw [hvm]; exact hown
  have hins : (Cond.instantiable cls 6).before args s' = true := h _ (by simp [Bundle.ownAtoms])
  obtain ⟨vm₁, cX, kX, hfX, hkX, -, -, X₁, st1⟩ := Y.newCold hexec (own := own) (C := cls) (index := ik) (n := 6) hown' hk' hins hini'
    (g := F0 m pc ls rest) rfl (by rw [hb]; exact d0) (Nat.le_refl _) (Nat.le_refl _)
  generalize hT1 : (T.setVm vm₁).pushCell { cls := cX, slots := kX.instanceTypes.map defaultValue, vm := .none } = T1 at X₁ st1
  have hcat : (Value.ref T.heap.size).category = 1 := rfl
  have hcellA : T1.heap[T.heap.size]? = some (freshCell cX kX) := by rw [← hT1]; exact State.heap_pushCell_size _ _
  have d3' : decode c.code (pc + 3) = .ok (.dup, 1) := by rw [hb]; exact d3
  have d4' : decode c.code (pc + 4) = .ok (.ldc is, 2) := by rw [hb]; exact d4
  have hstr' : vk_R own is text sa s' := vk_R.warm hW0 hstr
  obtain ⟨U, hsteps, hrun, hend, hW, hsame, ce, hce, hO⟩ := X₁.ctorThrowS hexec htr (own := own) (cls := cls) (names := names) (ic := ic) hown' hcls hnames h (fun x hx => nomatch hx) hfX hkX hcellA (by rw [hhp, hT]; exact Nat.le_refl _) (msg := .ref sa) rfl
    (g := { method := m, pc := pc + 6, locals := ls, stack := .ref sa :: .ref T.heap.size :: .ref T.heap.size :: rest, locked := none }) rfl hsize rfl rfl (rest := rest) rfl
    (by rw [hb]; exact d6) (by rw [hb]; exact d9) hout hRframes (by simp only [List.map_cons, List.sum_cons, hcat]; omega) hlocks
  obtain ⟨f1, f2⟩ := vx_frame hsame
  rw [hhp] at f1 f2
  have hWs : s.WarmedH U.vm := State.WarmedH.trans hW0 hW
  have hcl : s.vm.findClass cls = some ce.cls := by
    have h9 := hO.cls
    rw [hvm] at h9
    exact h9
  have hall : s.sameButNew ({ U with vm := s.vm } : State) locs mc ms := by
    subst hA
    obtain ⟨e1, e2⟩ := hsame
    rw [State.setFrames_setFrames] at e1
    have h2 : (T.setVm s.vm).sameButNew ({ U with vm := s.vm } : State) [] (0 + 1) (0 + 6) := ⟨e1, e2⟩
    have h3 := X.same.trans h2
    rw [List.append_nil] at h3
    exact h3.mono hc hs
  refine ⟨U, ?_, .threw T.heap.size, hrun, hend, Or.inr ⟨T.heap.size, rfl, cls, ce, locs, hx U hWs.alike f1 (fun q hq => f2 q hq (fun z hz => nomatch hz)), hce, hO.vm, hcl, hWs, hall, hf⟩⟩
  refine st1 _ ?_
  show Steps p.tables e below (T1.setTop { method := m, pc := pc + 3, locals := ls, stack := .ref T.heap.size :: rest, locked := none }) _
  jvm_step X₁.here [X₁.here.top, hexec, d3', Value.category]
  exact X₁.ldcString hexec (own := own) (text := text) (index := is) (a := sa) hown' hstr'.1 hstr'.2
    (g := { method := m, pc := pc + 4, locals := ls, stack := .ref T.heap.size :: .ref T.heap.size :: rest, locked := none }) rfl d4' _ hsteps
/-- 'throw new E("text")', the text by a wide index -/
theorem vx_throwSW {cc : ByteArray} {pc : Nat} (hexec : p.tables.exec = Jvm.exec) (hb : c.code = cc) (hl : l.stackTraces = false) {own cls text : String} {names : List String} {ik is ic mc ms sa : Nat} {A : Nat → Prop}
    (hown : s.vm.findClass own = some m.cls) (hcls : Bundle.fit cls = true) (hnames : ∀ n ∈ names, Bundle.fit n = true)
    (hk : (Cond.classLink own ik cls).before args s = true) (hini : (Cond.initialized cls).before args s = true) (hstr : vk_R own is text sa s) (hat : ∀ w ∈ vx_atS own ic cls names, w.before args s = true)
    (hgood : ∀ w ∈ Cond.classLink own ik cls :: Cond.initialized cls :: vx_atS own ic cls names, vx_ot w = true)
    (hU : vx_Zq Bundle.tN "UNASSIGNED_STACK" Bundle.steD A s s.heap) (hN : vx_Zq Bundle.tN "SUPPRESSED_SENTINEL" Bundle.listD A s s.heap) (hS : va_S A s.heap H locs) (hsize : ls.size = c.maxLocals)
    (d0 : decode cc pc = .ok (.new ik, 3)) (d3 : decode cc (pc + 3) = .ok (.dup, 1)) (d4 : decode cc (pc + 4) = .ok (.ldc_w is, 3)) (d7 : decode cc (pc + 7) = .ok (.invokespecial ic, 3)) (d10 : decode cc (pc + 10) = .ok (.athrow, 1))
    (hout : ∀ x ∈ c.exceptionTable.toList, covers x (pc + 10) = false)
    (hRframes : names.length + 3 < R.frames) (hRlocals : (rest.map fun v => v.category).sum + (13 * (names.length + 1) + 43) ≤ R.locals) (hRcells : cells + 1 ≤ R.cells) (hRslots : slots + 6 ≤ R.slots) (hlocks : meth.locks = false)
    (hx : ∀ t : State, s.vm.Alike t.vm → H.size ≤ t.heap.size → (∀ q : Nat, q < H.size → t.heap[q]? = H[q]?) → XC cls s t)
    (hf : ∀ z ∈ locs, free z.base) (hc : cells + 1 ≤ mc) (hs : slots + 6 ≤ ms) :
    W p l e R s m args below meth c H locs cells slots (vx_MQ below Qc XC args s mc ms free) (F0 m pc ls rest) := by
  intro T hT X
  have htr : e.platform.stackTraces = false := (show e.platform.stackTraces = l.stackTraces by rw [X.admits.platform]).trans hl
  have Y := vx_rebase X (R' := { frames := R.frames, locals := R.locals, cells := 1, slots := 6 }) (Nat.le_refl _) (Nat.le_refl _) hRcells hRslots
  obtain ⟨s', hA⟩ : ∃ z, z = (T.setVm s.vm).setFrames (.invoking m args :: below) := ⟨_, rfl⟩
  rw [← hA] at Y
  have hvm : s'.vm = s.vm := by rw [hA]; rfl
  have hhp : s'.heap = H := by rw [hA]; exact hT
  have hW0 : s.WarmedH s'.vm := by rw [hvm]; exact State.WarmedH.refl s
  have hat' : ∀ w ∈ vx_atS own ic cls names, w.before args s' = true := fun w hw => vx_ot_at hW0 hvm.symm (hgood w (List.mem_cons_of_mem _ (List.mem_cons_of_mem _ hw))) (hat w hw)
  have hk' : (Cond.classLink own ik cls).before args s' = true := vx_ot_at hW0 hvm.symm (hgood _ List.mem_cons_self) hk
  have hini' : (Cond.initialized cls).before args s' = true := vx_ot_at hW0 hvm.symm (hgood _ (List.mem_cons_of_mem _ List.mem_cons_self)) hini
  have hU' : vx_Zq Bundle.tN "UNASSIGNED_STACK" Bundle.steD A s' s'.heap := by rw [hhp]; exact vx_Zq.moved hW0.alike (hU.kept hS.2.1)
  have hN' : vx_Zq Bundle.tN "SUPPRESSED_SENTINEL" Bundle.listD A s' s'.heap := by rw [hhp]; exact vx_Zq.moved hW0.alike (hN.kept hS.2.1)
  have h : ∀ w ∈ Bundle.ownAtoms own ic cls names, w.before args s' = true := vx_own hat' (vx_isRefq hU'.1) (vx_isRefq hN'.1) hU'.2.word hN'.2.word
  have hown' : s'.vm.findClass own = some m.cls := by rw [hvm]; exact hown
  have hins : (Cond.instantiable cls 6).before args s' = true := h _ (by simp [Bundle.ownAtoms])
  obtain ⟨vm₁, cX, kX, hfX, hkX, -, -, X₁, st1⟩ := Y.newCold hexec (own := own) (C := cls) (index := ik) (n := 6) hown' hk' hins hini'
    (g := F0 m pc ls rest) rfl (by rw [hb]; exact d0) (Nat.le_refl _) (Nat.le_refl _)
  generalize hT1 : (T.setVm vm₁).pushCell { cls := cX, slots := kX.instanceTypes.map defaultValue, vm := .none } = T1 at X₁ st1
  have hcat : (Value.ref T.heap.size).category = 1 := rfl
  have hcellA : T1.heap[T.heap.size]? = some (freshCell cX kX) := by rw [← hT1]; exact State.heap_pushCell_size _ _
  have d3' : decode c.code (pc + 3) = .ok (.dup, 1) := by rw [hb]; exact d3
  have d4' : decode c.code (pc + 4) = .ok (.ldc_w is, 3) := by rw [hb]; exact d4
  have hstr' : vk_R own is text sa s' := vk_R.warm hW0 hstr
  obtain ⟨U, hsteps, hrun, hend, hW, hsame, ce, hce, hO⟩ := X₁.ctorThrowS hexec htr (own := own) (cls := cls) (names := names) (ic := ic) hown' hcls hnames h (fun x hx => nomatch hx) hfX hkX hcellA (by rw [hhp, hT]; exact Nat.le_refl _) (msg := .ref sa) rfl
    (g := { method := m, pc := pc + 7, locals := ls, stack := .ref sa :: .ref T.heap.size :: .ref T.heap.size :: rest, locked := none }) rfl hsize rfl rfl (rest := rest) rfl
    (by rw [hb]; exact d7) (by rw [hb]; exact d10) hout hRframes (by simp only [List.map_cons, List.sum_cons, hcat]; omega) hlocks
  obtain ⟨f1, f2⟩ := vx_frame hsame
  rw [hhp] at f1 f2
  have hWs : s.WarmedH U.vm := State.WarmedH.trans hW0 hW
  have hcl : s.vm.findClass cls = some ce.cls := by
    have h9 := hO.cls
    rw [hvm] at h9
    exact h9
  have hall : s.sameButNew ({ U with vm := s.vm } : State) locs mc ms := by
    subst hA
    obtain ⟨e1, e2⟩ := hsame
    rw [State.setFrames_setFrames] at e1
    have h2 : (T.setVm s.vm).sameButNew ({ U with vm := s.vm } : State) [] (0 + 1) (0 + 6) := ⟨e1, e2⟩
    have h3 := X.same.trans h2
    rw [List.append_nil] at h3
    exact h3.mono hc hs
  refine ⟨U, ?_, .threw T.heap.size, hrun, hend, Or.inr ⟨T.heap.size, rfl, cls, ce, locs, hx U hWs.alike f1 (fun q hq => f2 q hq (fun z hz => nomatch hz)), hce, hO.vm, hcl, hWs, hall, hf⟩⟩
  refine st1 _ ?_
  show Steps p.tables e below (T1.setTop { method := m, pc := pc + 3, locals := ls, stack := .ref T.heap.size :: rest, locked := none }) _
  jvm_step X₁.here [X₁.here.top, hexec, d3', Value.category]
  exact X₁.ldcStringW hexec (own := own) (text := text) (index := is) (a := sa) hown' hstr'.1 hstr'.2
    (g := { method := m, pc := pc + 4, locals := ls, stack := .ref T.heap.size :: .ref T.heap.size :: rest, locked := none }) rfl d4' _ hsteps
end Ends
section Bodies
variable {l : Launch}
theorem vx_ofW {y : MethodName} {ws ws' : List Cond} {rm : Room} {Pc : Array Value → State → Prop} {Qc : Array Value → State → Outcome → State → Prop} {XC : String → State → State → Prop} {mc ms : Nat} {free : Addr → Prop} {cc : ByteArray} {maxL : Nat} {ret : Option FieldType}
    (hy : plainName y.cls = true) (hw : ws = Cond.code y cc maxL ret :: ws')
    (body : ∀ p e s m args below meth c s₁, BodyLoose p l y (headSpec ws rm) cc maxL ret e s m args below meth c s₁ → c.maxLocals = maxL → (∀ x ∈ c.exceptionTable.toList, False) → Pc args s →
      W p l e (headSpec ws rm).room s m args below meth c s.heap [] 0 0 (vx_MQ below Qc XC args s mc ms free) (entryFrame m args maxL)) : vx_Met l y ws rm Pc Qc XC mc ms free := by
  refine MetFree.of_bodyS (code := cc) (maxLocals := maxL) (ret := ret) hy ?_ ?_
  · intro args s m h hn
    obtain ⟨meth, c, h1, h2, h3, h4, h5, h6, -, -⟩ := Cond.code_spec hn (atoms_spec (ws := ws) h _ (by rw [hw]; exact List.mem_cons_self))
    exact ⟨meth, c, h1, h2, h3, h4, h5, h6⟩
  · intro p e s m args below meth c s₁ B hml hP _
    have hh0 : s₁.heap = s.heap := by rw [B.state]; rfl
    have ht : ∀ x ∈ c.exceptionTable.toList, False := by
      obtain ⟨meth9, c9, h1, h2, -, -, -, -, h7, -⟩ := Cond.code_spec B.named (atoms_spec (ws := ws) B.pre _ (by rw [hw]; exact List.mem_cons_self))
      cases Option.some.inj (h1.symm.trans B.method)
      cases Option.some.inj (h2.symm.trans (Stand.of_body B).code)
      intro x hx
      rw [Array.isEmpty_iff.mp h7] at hx
      cases hx
    obtain ⟨t, a1, o, b1, b2, b3⟩ := body p e s m args below meth c s₁ B hml ht hP s₁ hh0 (Stand.of_body B)
    exact ⟨t, o, a1, b1, b2, b3⟩
/-- the table of a body with handlers -/
theorem vx_table {p : Program} {x y : MethodName} {S : Spec} {cc bytes : ByteArray} {maxL maxL' : Nat} {ret ret' : Option FieldType} {e : Env} {s s₁ : State} {m : MethodId} {args : Array Value} {below : List Frame} {meth : Method} {c : Code} {hh : List (Nat × Nat × Nat × Nat)}
    (B : BodyLoose p l y S cc maxL ret e s m args below meth c s₁) (h : (Cond.codeWith y bytes maxL' ret' hh).before args s = true) : c.exceptionTable.toList = tableOf hh := by
  obtain ⟨m9, meth9, c9, hn9, h1, h2, -, -, h6, -⟩ := Cond.codeWith_spec h
  cases Option.some.inj (hn9.symm.trans B.named)
  cases Option.some.inj (h1.symm.trans B.method)
  cases Option.some.inj (h2.symm.trans (Stand.of_body B).code)
  rw [← h6, table_eq]
end Bodies
end VXA
/-! ===== END ===== -/
/-! ===== BEGIN a static call of a method with an exception table ===== -/
section VXS
variable {p : Program} {l : Launch} {e : Env} {R : Room} {s : State} {m : MethodId} {args : Array Value} {below : List Frame} {meth : Method} {c : Code} {T : State} {H : Heap} {locs : List Loc} {cells slots : Nat}
abbrev vx_CSW (R : Room) (s : State) (args : Array Value) (own : String) (index : Nat) (y : MethodName) (bytes : ByteArray) (maxL : Nat) (ret : Option FieldType) (hh : List (Nat × Nat × Nat × Nat)) (ws : List Cond) (rm : Room) (mc ms n : Nat) : Prop :=
  (rm.cells = mc ∧ rm.slots = ms ∧ rm.frames + 1 ≤ R.frames ∧ 8 + (maxL + 11) + rm.locals ≤ R.locals ∧ (∀ w ∈ ws, ∀ (a' : Array Value) (U : State), s.WarmedH U.vm → w.before a' U = true) ∧ Cond.codeWith y bytes maxL ret hh ∈ ws) ∧
  (Cond.codeWith y bytes maxL ret hh).before args s = true ∧ (Cond.initialized y.cls).before args s = true ∧ (y.cls ≠ "java/lang/invoke/MethodHandle" ∧ y.cls ≠ "java/lang/invoke/VarHandle") ∧
  (∀ sig, parseMethodDescriptor y.desc = some sig → n = sig.parameters.length) ∧ (Cond.methodLink own index y).before args s = true ∧ (Cond.static y).before args s = true
theorem vx_cwSW {own : String} {index maxL mc ms : Nat} {y : MethodName} {bytes : ByteArray} {ret : Option FieldType} {hh : List (Nat × Nat × Nat × Nat)} {Ts ws ws' : List Cond} {rm : Room} (n : Nat) (ht : ∀ w ∈ Ts, w.before args s = true) (hT : GoodIn Ts (va_wsS own index y ws)) (hw : ws = Cond.codeWith y bytes maxL ret hh :: ws') (hrc : rm.cells = mc) (hrs : rm.slots = ms)
    (hd : y.cls ≠ "java/lang/invoke/MethodHandle" ∧ y.cls ≠ "java/lang/invoke/VarHandle" ∧ (parseMethodDescriptor y.desc).map (fun d => d.parameters.length) = some n) (hR : rm.frames + 1 ≤ R.frames ∧ 8 + (maxL + 11) + rm.locals ≤ R.locals) :
    vx_CSW R s args own index y bytes maxL ret hh ws rm mc ms n := by
  have ok : ∀ w ∈ va_wsS own index y ws, w.before args s = true := fun w h => ht w (hT w h).1
  have hG : GoodIn Ts ws := fun w h => hT w (by unfold va_wsS; exact List.mem_append_right _ h)
  have hc : Cond.codeWith y bytes maxL ret hh ∈ ws := by rw [hw]; exact List.mem_cons_self
  refine ⟨⟨hrc, hrs, hR.1, hR.2, pay_in ht hG, hc⟩, ht _ (hG _ hc).1, ok _ (by simp [va_wsS]), ⟨hd.1, hd.2.1⟩, fun sig h => ?_, ok _ (by simp [va_wsS]), ok _ (by simp [va_wsS])⟩
  have h2 := hd.2.2
  rw [h] at h2
  exact (Option.some.inj h2).symm
theorem vx_callSW (X : Stand p l e R s m args below meth c T locs cells slots) (hexec : p.tables.exec = Jvm.exec) {own : String} {index : Nat} {y : MethodName} {bytes : ByteArray} {maxL : Nat} {ret : Option FieldType} {hh : List (Nat × Nat × Nat × Nat)}
    (hown : s.vm.findClass own = some m.cls) (hlink : (Cond.methodLink own index y).before args s = true) (hstat : (Cond.static y).before args s = true) (hinit : (Cond.initialized y.cls).before args s = true)
    (hcode : (Cond.codeWith y bytes maxL ret hh).before args s = true) (hy : y.cls ≠ "java/lang/invoke/MethodHandle" ∧ y.cls ≠ "java/lang/invoke/VarHandle")
    {W9 : Nat} {Pre : Pt → Array Value → Prop} {Post : Pt → Array Value → Option Value → Pt → Prop} (hK : Back l R p e below s args y 3 W9 Pre Post)
    {g : JFrame} (hg : g.method = m) (hsize : g.locals.size = c.maxLocals) {argsL rest : List Value} (hlen : ∀ sig, parseMethodDescriptor y.desc = some sig → argsL.length = sig.parameters.length)
    (hstack : g.stack = argsL.reverse ++ rest) (hW : 2 * g.monitorRoom + (rest.map fun v => v.category).sum ≤ W9) (hdg : decode c.code g.pc = .ok (.invokestatic index, 3))
    (hpre : ∀ vm₁, s.WarmedH vm₁ → Pre ⟨T.setVm vm₁, locs, cells, slots⟩ argsL.toArray) :
    ∃ (v : Option Value) (vm₁ : Vm) (B : Pt), s.WarmedH vm₁ ∧ Stand p l e R s m args below meth c B.U B.locs B.cells B.slots ∧ Post ⟨T.setVm vm₁, locs, cells, slots⟩ argsL.toArray v B ∧
      ∀ target, Steps p.tables e below (B.U.setTop { g with pc := g.pc + 3, stack := v.toList ++ rest }) target → Steps p.tables e below (T.setTop g) target := by
  obtain ⟨mk, methM, cM, hnamed, hmethM, -, -, -, -, -, -, hsigM⟩ := Cond.codeWith_spec hcode
  have hstatic : methM.isStatic = true := Cond.static_spec hnamed hmethM hstat
  obtain ⟨kP, hkP, -⟩ := className_of_methodNamed hnamed
  have hinitP : kP.init = .initialized := Cond.initialized_spec (findClass_of_methodNamed hnamed) hkP hinit
  obtain ⟨vm₁, X₁, hstep₁⟩ := X.invokestatic hexec hown hlink hnamed hmethM hstatic hkP hinitP hy (g := g) hg (argsL := argsL) (rest := rest) (hlen _ hsigM) hstack hdg
  obtain ⟨v, B, X', hpost, hsteps⟩ := hK m meth c ⟨T.setVm vm₁, locs, cells, slots⟩ { g with stack := rest } (.invokestatic index) mk argsL.toArray X₁ hg hsize hdg hW (X₁.named hnamed) (hpre vm₁ X₁.warmed)
  exact ⟨v, vm₁, B, X₁.warmed, X', hpost, fun target h => hstep₁ _ fun acts => by rw [doInvoke_state]; exact hsteps.trans h⟩
theorem vx_runSW {y : MethodName} {bytes cc : ByteArray} {maxL nL mc ms n index : Nat} {ret : Option FieldType} {hh : List (Nat × Nat × Nat × Nat)} {ws : List Cond} {rm : Room} {Pc : Array Value → State → Prop} {Qc : Array Value → State → Outcome → State → Prop} {free : Addr → Prop} {Ts : List Cond} {own : String} {As rest : List Value} {g : JFrame}
    (S : CallFix p m c cc nL s args Ts own) (hM : Met l y ws rm Pc Qc mc ms free) (cw : vx_CSW R s args own index y bytes maxL ret hh ws rm mc ms n) (hp : PreS s H Pc As)
    (hg : g.method = m) (hn : As.length = n) (hsize : g.locals.size = nL) (hstack : g.stack = As.reverse ++ rest) (hW : 2 * g.monitorRoom + (rest.map fun v => v.category).sum ≤ 8) (hdg : decode cc g.pc = .ok (.invokestatic index, 3)) (hf : cells + mc ≤ R.cells ∧ slots + ms ≤ R.slots) :
    va_Run p l e R s m args below meth c H locs cells slots mc ms g rest (Qc As.toArray) (free) := by
  obtain ⟨⟨hrc, hrs, hfr, hlo, hws, hcw⟩, hcode, hini, hy, hlen, hl, hstt⟩ := cw
  have hK : Back l R p e below s args y 3 8 (PreOf R mc ms Pc) (PostOf Qc mc ms free) := va_backW (hh := hh) (bytes := bytes) (maxL := maxL) (ret := ret) hM hp.1 hrc hrs hfr hlo hws hcw (fun a' U hW => word_at hW (Or.inl (by first | rfl | simp [Cond.onTables, Cond.keeps, Cond.steady])) hini)
  obtain ⟨hx, hb, hml, ho, -⟩ := S
  intro T hT X
  obtain ⟨v, vm₁, ⟨U', l2, c2, s2⟩, hW₁, X', ⟨g', mk, t, L, e1, e2, hq, h1, hL, h2, h3⟩, st⟩ := vx_callSW X hx (hh := hh) (bytes := bytes) (maxL := maxL) (ret := ret) ho hl hstt hini hcode hy hK hg (hsize.trans hml.symm) (argsL := As) (rest := rest) (fun sig h => hn.trans (hlen sig h)) hstack hW (by rw [hb]; exact hdg)
    (fun vm₁ hW₁ => ⟨hf.1, hf.2, hp.2 (T.setVm vm₁) hT hW₁⟩)
  dsimp only [Pt.U, Pt.locs, Pt.cells, Pt.slots] at X' e1 e2 h1 h2 h3 st
  subst h1; subst h2; subst h3
  exact ⟨v, (T.setVm vm₁).calling g' mk As.toArray, t, U', L, hT, X', hL, e1, e2, hq, st⟩
/-- a thing of a world lies in the heap -/
theorem vx_lt {D : va_G} {cl : List vw_C} {ws : va_W} {H1 : Heap} (h : va_P D cl ws H1) {k : Nat} {q : Nat × va_E} (hk : ws[k]? = some q) : q.1 < H1.size := (h k q hk).lt
end VXS
/-! ===== END ===== -/
/-! ===== BEGIN methods with a table of their own: called by a name, returning or throwing ===== -/
section VXH
/-! vx_backW, vx_callVX, vx_callSX, vx_callVW, vx_runVW, vx_runVX, vx_runSX, vx_ofWH follow the same proofs as their sisters above (Free/Laws.lean, Shelf42/LK1.lean); vx_outP calls Shelf42/NT130.lean (outThrough). -/
section
variable {l : Launch} {R : Room} {p : Program} {e : Env} {below : List Frame} {s : State} {sargs : Array Value} {y : MethodName} {len W9 : Nat}
theorem vx_backW {ws : List Cond} {rm : Room} {Pc : Array Value → State → Prop} {Qc : Array Value → State → Outcome → State → Prop} {XC : String → State → State → Prop} {mc ms : Nat} {free : Addr → Prop} {bytes : ByteArray} {maxL : Nat} {ret : Option FieldType} {hh : List (Nat × Nat × Nat × Nat)}
    (hM : vx_Met l y ws rm Pc Qc XC mc ms free) (hblind : FrameBlind Pc) (hrc : rm.cells = mc) (hrs : rm.slots = ms)
    (hframes : rm.frames + 1 ≤ R.frames) (hlocals : W9 + (maxL + 11) + rm.locals ≤ R.locals)
    (hws : ∀ w ∈ ws, ∀ a' U, s.WarmedH U.vm → w.before a' U = true) (hcode : Cond.codeWith y bytes maxL ret hh ∈ ws) (hinit : ∀ a' U, s.WarmedH U.vm → (Cond.initialized y.cls).before a' U = true) :
    vx_Back l R p e below s sargs y len W9 (PreOf R mc ms Pc) (PostOf Qc mc ms free) (vx_Post XC mc ms free) := by
  intro m meth c A g ig mk a X hg hsize hdg hW hn hp
  have h1 : (headSpec ws rm).pre.before a A.U = true := atoms_intro fun w hw => hws w hw _ _ X.warmed
  have h2 : (Cond.codeWith y bytes maxL ret hh).before a A.U = true := hws _ hcode _ _ X.warmed
  have h3 : (Cond.initialized y.cls).before a A.U = true := hinit _ _ X.warmed
  have h4 : A.cells + (headSpec ws rm).room.cells ≤ R.cells := by rw [show (headSpec ws rm).room.cells = mc from hrc]; exact hp.1
  have h5 : A.slots + (headSpec ws rm).room.slots ≤ R.slots := by rw [show (headSpec ws rm).room.slots = ms from hrs]; exact hp.2.1
  have hPc : Pc a (A.U.calling g mk a) := hblind _ _ _ _ hp.2.2
  obtain ⟨U, Ls, c0, s0⟩ := A
  dsimp only [Pt.U, Pt.locs, Pt.cells, Pt.slots] at h1 h2 h3 h4 h5 X hn hPc ⊢
  obtain ⟨m9, methY, cY, hn9, hmY, hcY, -, hlY, -⟩ := Cond.codeWith_spec h2
  cases Option.some.inj (hn9.symm.trans hn)
  obtain ⟨kY, hkY, -⟩ := className_of_methodNamed hn
  have hinitY : kY.init = .initialized := Cond.initialized_spec (findClass_of_methodNamed hn) hkY h3
  have h : At U g.method c below := by rw [hg]; exact X.here
  have hlocals9 : W9 + (maxL + 11) + (headSpec ws rm).room.locals ≤ R.locals := hlocals
  have happ : (headSpec ws rm).appliesLoose y e.platform (U.calling g mk a) = true :=
    Spec.appliesLoose_calling (g := g) h hdg hn hkY hinitY
      (X.room_calling (g := g) (R' := (headSpec ws rm).room) hsize hmY hcY hframes (by rw [hlY]; omega) h4 h5) h1
  obtain ⟨mid, hmid⟩ := h.above
  have hfr : (U.setTop g).frames = (.java g :: mid) ++ below := by rw [State.frames_setTop' g h.top, hmid]; rfl
  obtain ⟨o, s₂, hsteps, -, hend, hq⟩ := Steps.callFree hM p X.admits X.cas X.clock (acts := []) hfr happ hPc trivial
  have hq' : vx_Q Qc XC mc ms free a (U.calling g mk a) o s₂ := hq
  rw [State.frames_setTop' g h.top] at hend
  obtain ⟨g₀, hg0⟩ := Option.isSome_iff_exists.mp h.top
  obtain ⟨r, hr⟩ := State.topJava?_eq_some.mp hg0
  have hr' : (({ U with heap := s₂.heap, slotsUsed := s₂.slotsUsed } : State).setVm s₂.vm).frames = .java g₀ :: r := hr
  rcases hq' with ⟨hqc, L, hfe, hL⟩ | ⟨q, rfl, E, ce, L, hx, hce, hcv, hcl, hW₂, hsm, hL⟩
  · obtain ⟨⟨v, rfl⟩, hW₂, e2, q2, q3, q4, q5, q6⟩ := id hfe
    have e3 : s₂ = ({ (U.calling g mk a).setFrames s₂.frames with heap := s₂.heap, slotsUsed := s₂.slotsUsed } : State).setVm s₂.vm := by
      have : s₂ = ({ s₂ with vm := (U.calling g mk a).vm } : State).setVm s₂.vm := rfl
      rw [e2] at this
      exact this
    obtain ⟨c₂, i₂, len₂, hc₂, hd₂, hf₂⟩ := hend
    have hW' : U.WarmedH s₂.vm := hW₂
    have hcc : c₂ = c := by
      have h1 : s₂.code? g.method = U.code? g.method := by
        rw [State.code?_eq, State.code?_eq, hW'.alike.method?]
      exact Option.some.inj (hc₂.symm.trans (h1.trans h.code))
    subst hcc
    have hlen : len₂ = len := by rw [hdg] at hd₂; cases hd₂; rfl
    subst hlen
    have hs₂ : s₂ = (({ U with heap := s₂.heap, slotsUsed := s₂.slotsUsed } : State).setVm s₂.vm).setTop { g with pc := g.pc + len₂, stack := v.toList ++ g.stack } := by
      refine e3.trans ?_
      rw [hf₂, State.calling_eq h.top, State.setFrames_setFrames, State.setTop_of_frames _ hr', hr]
      rfl
    have hsame : U.sameButNew ({ U with heap := s₂.heap, slotsUsed := s₂.slotsUsed } : State) L mc ms := by
      refine ⟨?_, q2, q3, q4, q5, q6⟩
      obtain ⟨t, ht, -⟩ := State.frames_cons hr
      show ({ U with heap := s₂.heap, slotsUsed := s₂.slotsUsed } : State) = { U.setFrames U.frames with heap := s₂.heap, slotsUsed := s₂.slotsUsed }
      rw [State.setFrames_self ht]
    subst hg
    refine Or.inl ⟨v, ⟨(({ U with heap := s₂.heap, slotsUsed := s₂.slotsUsed } : State).setVm s₂.vm), Ls ++ L, c0 + mc, s0 + ms⟩,
      ⟨X.admits, X.cas, X.clock, X.frames, X.room, X.hears, X.method, X.code, (X.here.setHeapUsed s₂.heap s₂.slotsUsed).setVm hW'.alike, X.tail, State.WarmedH.trans X.warmed hW', X.limits, X.bytes, X.same.trans (hsame.setVm s.vm)⟩,
      ⟨g, mk, s₂, L, rfl, rfl, hqc, rfl, hL, rfl, rfl⟩, ?_⟩
    show Steps p.tables e below _ ((({ U with heap := s₂.heap, slotsUsed := s₂.slotsUsed } : State).setVm s₂.vm).setTop { g with pc := g.pc + len₂, stack := v.toList ++ g.stack })
    rw [← hs₂]
    exact hsteps
  · obtain ⟨e2, q2, q3, q4, q5, q6⟩ := id hsm
    have e3 : s₂ = ({ (U.calling g mk a).setFrames s₂.frames with heap := s₂.heap, slotsUsed := s₂.slotsUsed } : State).setVm s₂.vm := by
      have : s₂ = ({ s₂ with vm := (U.calling g mk a).vm } : State).setVm s₂.vm := rfl
      rw [e2] at this
      exact this
    have hf₂ : s₂.frames = .throwing q :: .java g :: U.frames.tail := hend
    have hW' : U.WarmedH s₂.vm := hW₂
    have hs₂ : s₂ = ((({ U with heap := s₂.heap, slotsUsed := s₂.slotsUsed } : State).setVm s₂.vm).setTop g).pushFrame (.throwing q) := by
      refine e3.trans ?_
      rw [hf₂, State.calling_eq h.top, State.setFrames_setFrames, State.pushFrame, State.frames_setTop _ hr', State.setTop_of_frames _ hr', State.setFrames_setFrames, hr]
      rfl
    have hsame : U.sameButNew ({ U with heap := s₂.heap, slotsUsed := s₂.slotsUsed } : State) L mc ms := by
      refine ⟨?_, q2, q3, q4, q5, q6⟩
      obtain ⟨t, ht, -⟩ := State.frames_cons hr
      show ({ U with heap := s₂.heap, slotsUsed := s₂.slotsUsed } : State) = { U.setFrames U.frames with heap := s₂.heap, slotsUsed := s₂.slotsUsed }
      rw [State.setFrames_self ht]
    subst hg
    refine Or.inr ⟨q, ⟨(({ U with heap := s₂.heap, slotsUsed := s₂.slotsUsed } : State).setVm s₂.vm), Ls ++ L, c0 + mc, s0 + ms⟩,
      ⟨X.admits, X.cas, X.clock, X.frames, X.room, X.hears, X.method, X.code, (X.here.setHeapUsed s₂.heap s₂.slotsUsed).setVm hW'.alike, X.tail, State.WarmedH.trans X.warmed hW', X.limits, X.bytes, X.same.trans (hsame.setVm s.vm)⟩,
      ⟨g, mk, s₂, L, E, ce, rfl, rfl, hx, hce, hcv, hcl, rfl, hL, rfl, rfl⟩, ?_⟩
    show Steps p.tables e below _ (((({ U with heap := s₂.heap, slotsUsed := s₂.slotsUsed } : State).setVm s₂.vm).setTop g).pushFrame (.throwing q))
    rw [← hs₂]
    exact hsteps
end
variable {p : Program} {l : Launch} {e : Env} {R : Room} {s : State} {m : MethodId} {args : Array Value} {below : List Frame} {meth : Method} {c : Code} {T : State} {H : Heap} {locs : List Loc} {cells slots : Nat}
theorem vx_callVX (X : Stand p l e R s m args below meth c T locs cells slots) (hexec : p.tables.exec = Jvm.exec) {own C : String} {index : Nat} {y : MethodName} {bytes : ByteArray} {maxL : Nat} {ret : Option FieldType} {hh : List (Nat × Nat × Nat × Nat)}
    (hown : s.vm.findClass own = some m.cls) (hlink : (Cond.methodLink own index y).before args s = true) (hinst : (Cond.instanceMethod y).before args s = true) (hsel : (Cond.selects C y y).before args s = true)
    (hcode : (Cond.codeWith y bytes maxL ret hh).before args s = true) (hy : y.cls ≠ "java/lang/invoke/MethodHandle" ∧ y.cls ≠ "java/lang/invoke/VarHandle")
    {W9 : Nat} {Pre : Pt → Array Value → Prop} {Post : Pt → Array Value → Option Value → Pt → Prop} {PostX : Pt → Array Value → Addr → Pt → Prop} (hK : vx_Back l R p e below s args y 3 W9 Pre Post PostX)
    {b : Addr} {cellB : Cell} (hcell : T.heap[b]? = some cellB) (hobj : cellB.vm.isStatics = false) (hcls : s.vm.findClass C = some cellB.cls)
    {g : JFrame} (hg : g.method = m) (hsize : g.locals.size = c.maxLocals) {argsL rest : List Value} (hlen : ∀ sig, parseMethodDescriptor y.desc = some sig → argsL.length = sig.parameters.length)
    (hstack : g.stack = argsL.reverse ++ .ref b :: rest) (hW : 2 * g.monitorRoom + (rest.map fun v => v.category).sum ≤ W9) (hdg : decode c.code g.pc = .ok (.invokevirtual index, 3))
    (hpre : ∀ vm₁, s.WarmedH vm₁ → Pre ⟨T.setVm vm₁, locs, cells, slots⟩ (Value.ref b :: argsL).toArray) :
    (∃ (v : Option Value) (vm₁ : Vm) (B : Pt), s.WarmedH vm₁ ∧ Stand p l e R s m args below meth c B.U B.locs B.cells B.slots ∧ Post ⟨T.setVm vm₁, locs, cells, slots⟩ (Value.ref b :: argsL).toArray v B ∧
      ∀ target, Steps p.tables e below (B.U.setTop { g with pc := g.pc + 3, stack := v.toList ++ rest }) target → Steps p.tables e below (T.setTop g) target) ∨
    (∃ (q : Addr) (vm₁ : Vm) (B : Pt), s.WarmedH vm₁ ∧ Stand p l e R s m args below meth c B.U B.locs B.cells B.slots ∧ PostX ⟨T.setVm vm₁, locs, cells, slots⟩ (Value.ref b :: argsL).toArray q B ∧
      Steps p.tables e below (T.setTop g) ((B.U.setTop { g with stack := rest }).pushFrame (.throwing q))) := by
  obtain ⟨mk, methM, hnamed, hmethM, hstM, habM⟩ := Cond.instanceMethod_spec hinst
  obtain ⟨m8, methM', cM, hn8, hmethM', -, -, -, -, -, -, hsigM⟩ := Cond.codeWith_spec hcode
  cases Option.some.inj (hn8.symm.trans hnamed)
  cases hmethM.symm.trans hmethM'
  obtain ⟨c2, r2, m2, q1, q2, q3, q4, kP, hkP, hkPi⟩ := Cond.selects_spec hsel
  cases hcls.symm.trans q1
  cases (State.methodFound?_of_named hnamed hy).symm.trans q2
  cases hnamed.symm.trans q3
  have hselP : selectMethod e.platform s.vm cellB.cls mk = .method mk := by rw [Launch.admits_selectMethod X.admits]; exact q4
  obtain ⟨vm₁, X₁, hstep₁⟩ := X.invokevirtual hexec hown hlink hnamed hmethM hstM hkP hkPi hy (a := b) (cell := cellB) hcell
    (fun z h => by rw [h] at hobj; cases hobj) hselP hmethM habM hkP hkPi (g := g) hg (argsL := argsL) (rest := rest) (hlen _ hsigM) hstack hdg
  rcases hK m meth c ⟨T.setVm vm₁, locs, cells, slots⟩ { g with stack := rest } (.invokevirtual index) mk (Value.ref b :: argsL).toArray X₁ hg hsize hdg hW (X₁.named hnamed) (hpre vm₁ X₁.warmed) with ⟨v, B, X', hpost, hsteps⟩ | ⟨q, B, X', hpost, hsteps⟩
  · exact Or.inl ⟨v, vm₁, B, X₁.warmed, X', hpost, fun target h => hstep₁ _ fun acts => by rw [doInvoke_state]; exact hsteps.trans h⟩
  · exact Or.inr ⟨q, vm₁, B, X₁.warmed, X', hpost, hstep₁ _ fun acts => by rw [doInvoke_state]; exact hsteps⟩
theorem vx_callSX (X : Stand p l e R s m args below meth c T locs cells slots) (hexec : p.tables.exec = Jvm.exec) {own : String} {index : Nat} {y : MethodName} {bytes : ByteArray} {maxL : Nat} {ret : Option FieldType} {hh : List (Nat × Nat × Nat × Nat)}
    (hown : s.vm.findClass own = some m.cls) (hlink : (Cond.methodLink own index y).before args s = true) (hstat : (Cond.static y).before args s = true) (hinit : (Cond.initialized y.cls).before args s = true)
    (hcode : (Cond.codeWith y bytes maxL ret hh).before args s = true) (hy : y.cls ≠ "java/lang/invoke/MethodHandle" ∧ y.cls ≠ "java/lang/invoke/VarHandle")
    {W9 : Nat} {Pre : Pt → Array Value → Prop} {Post : Pt → Array Value → Option Value → Pt → Prop} {PostX : Pt → Array Value → Addr → Pt → Prop} (hK : vx_Back l R p e below s args y 3 W9 Pre Post PostX)
    {g : JFrame} (hg : g.method = m) (hsize : g.locals.size = c.maxLocals) {argsL rest : List Value} (hlen : ∀ sig, parseMethodDescriptor y.desc = some sig → argsL.length = sig.parameters.length)
    (hstack : g.stack = argsL.reverse ++ rest) (hW : 2 * g.monitorRoom + (rest.map fun v => v.category).sum ≤ W9) (hdg : decode c.code g.pc = .ok (.invokestatic index, 3))
    (hpre : ∀ vm₁, s.WarmedH vm₁ → Pre ⟨T.setVm vm₁, locs, cells, slots⟩ argsL.toArray) :
    (∃ (v : Option Value) (vm₁ : Vm) (B : Pt), s.WarmedH vm₁ ∧ Stand p l e R s m args below meth c B.U B.locs B.cells B.slots ∧ Post ⟨T.setVm vm₁, locs, cells, slots⟩ argsL.toArray v B ∧
      ∀ target, Steps p.tables e below (B.U.setTop { g with pc := g.pc + 3, stack := v.toList ++ rest }) target → Steps p.tables e below (T.setTop g) target) ∨
    (∃ (q : Addr) (vm₁ : Vm) (B : Pt), s.WarmedH vm₁ ∧ Stand p l e R s m args below meth c B.U B.locs B.cells B.slots ∧ PostX ⟨T.setVm vm₁, locs, cells, slots⟩ argsL.toArray q B ∧
      Steps p.tables e below (T.setTop g) ((B.U.setTop { g with stack := rest }).pushFrame (.throwing q))) := by
  obtain ⟨mk, methM, cM, hnamed, hmethM, -, -, -, -, -, -, hsigM⟩ := Cond.codeWith_spec hcode
  have hstatic : methM.isStatic = true := Cond.static_spec hnamed hmethM hstat
  obtain ⟨kP, hkP, -⟩ := className_of_methodNamed hnamed
  have hinitP : kP.init = .initialized := Cond.initialized_spec (findClass_of_methodNamed hnamed) hkP hinit
  obtain ⟨vm₁, X₁, hstep₁⟩ := X.invokestatic hexec hown hlink hnamed hmethM hstatic hkP hinitP hy (g := g) hg (argsL := argsL) (rest := rest) (hlen _ hsigM) hstack hdg
  rcases hK m meth c ⟨T.setVm vm₁, locs, cells, slots⟩ { g with stack := rest } (.invokestatic index) mk argsL.toArray X₁ hg hsize hdg hW (X₁.named hnamed) (hpre vm₁ X₁.warmed) with ⟨v, B, X', hpost, hsteps⟩ | ⟨q, B, X', hpost, hsteps⟩
  · exact Or.inl ⟨v, vm₁, B, X₁.warmed, X', hpost, fun target h => hstep₁ _ fun acts => by rw [doInvoke_state]; exact hsteps.trans h⟩
  · exact Or.inr ⟨q, vm₁, B, X₁.warmed, X', hpost, hstep₁ _ fun acts => by rw [doInvoke_state]; exact hsteps⟩
theorem vx_callVW (X : Stand p l e R s m args below meth c T locs cells slots) (hexec : p.tables.exec = Jvm.exec) {own C : String} {index : Nat} {y : MethodName} {bytes : ByteArray} {maxL : Nat} {ret : Option FieldType} {hh : List (Nat × Nat × Nat × Nat)}
    (hown : s.vm.findClass own = some m.cls) (hlink : (Cond.methodLink own index y).before args s = true) (hinst : (Cond.instanceMethod y).before args s = true) (hsel : (Cond.selects C y y).before args s = true)
    (hcode : (Cond.codeWith y bytes maxL ret hh).before args s = true) (hy : y.cls ≠ "java/lang/invoke/MethodHandle" ∧ y.cls ≠ "java/lang/invoke/VarHandle")
    {W9 : Nat} {Pre : Pt → Array Value → Prop} {Post : Pt → Array Value → Option Value → Pt → Prop} (hK : Back l R p e below s args y 3 W9 Pre Post)
    {b : Addr} {cellB : Cell} (hcell : T.heap[b]? = some cellB) (hobj : cellB.vm.isStatics = false) (hcls : s.vm.findClass C = some cellB.cls)
    {g : JFrame} (hg : g.method = m) (hsize : g.locals.size = c.maxLocals) {argsL rest : List Value} (hlen : ∀ sig, parseMethodDescriptor y.desc = some sig → argsL.length = sig.parameters.length)
    (hstack : g.stack = argsL.reverse ++ .ref b :: rest) (hW : 2 * g.monitorRoom + (rest.map fun v => v.category).sum ≤ W9) (hdg : decode c.code g.pc = .ok (.invokevirtual index, 3))
    (hpre : ∀ vm₁, s.WarmedH vm₁ → Pre ⟨T.setVm vm₁, locs, cells, slots⟩ (Value.ref b :: argsL).toArray) :
    ∃ (v : Option Value) (vm₁ : Vm) (B : Pt), s.WarmedH vm₁ ∧ Stand p l e R s m args below meth c B.U B.locs B.cells B.slots ∧ Post ⟨T.setVm vm₁, locs, cells, slots⟩ (Value.ref b :: argsL).toArray v B ∧
      ∀ target, Steps p.tables e below (B.U.setTop { g with pc := g.pc + 3, stack := v.toList ++ rest }) target → Steps p.tables e below (T.setTop g) target := by
  obtain ⟨mk, methM, hnamed, hmethM, hstM, habM⟩ := Cond.instanceMethod_spec hinst
  obtain ⟨m8, methM', cM, hn8, hmethM', -, -, -, -, -, -, hsigM⟩ := Cond.codeWith_spec hcode
  cases Option.some.inj (hn8.symm.trans hnamed)
  cases hmethM.symm.trans hmethM'
  obtain ⟨c2, r2, m2, q1, q2, q3, q4, kP, hkP, hkPi⟩ := Cond.selects_spec hsel
  cases hcls.symm.trans q1
  cases (State.methodFound?_of_named hnamed hy).symm.trans q2
  cases hnamed.symm.trans q3
  have hselP : selectMethod e.platform s.vm cellB.cls mk = .method mk := by rw [Launch.admits_selectMethod X.admits]; exact q4
  obtain ⟨vm₁, X₁, hstep₁⟩ := X.invokevirtual hexec hown hlink hnamed hmethM hstM hkP hkPi hy (a := b) (cell := cellB) hcell
    (fun z h => by rw [h] at hobj; cases hobj) hselP hmethM habM hkP hkPi (g := g) hg (argsL := argsL) (rest := rest) (hlen _ hsigM) hstack hdg
  obtain ⟨v, B, X', hpost, hsteps⟩ := hK m meth c ⟨T.setVm vm₁, locs, cells, slots⟩ { g with stack := rest } (.invokevirtual index) mk (Value.ref b :: argsL).toArray X₁ hg hsize hdg hW (X₁.named hnamed) (hpre vm₁ X₁.warmed)
  exact ⟨v, vm₁, B, X₁.warmed, X', hpost, fun target h => hstep₁ _ fun acts => by rw [doInvoke_state]; exact hsteps.trans h⟩
abbrev vx_CVW (R : Room) (s : State) (args : Array Value) (own C : String) (index : Nat) (y : MethodName) (bytes : ByteArray) (maxL : Nat) (ret : Option FieldType) (hh : List (Nat × Nat × Nat × Nat)) (ws : List Cond) (rm : Room) (mc ms n : Nat) : Prop :=
  (rm.cells = mc ∧ rm.slots = ms ∧ rm.frames + 1 ≤ R.frames ∧ 8 + (maxL + 11) + rm.locals ≤ R.locals ∧ (∀ w ∈ ws, ∀ (a' : Array Value) (U : State), s.WarmedH U.vm → w.before a' U = true) ∧ Cond.codeWith y bytes maxL ret hh ∈ ws) ∧
  (Cond.codeWith y bytes maxL ret hh).before args s = true ∧ (Cond.initialized y.cls).before args s = true ∧ (y.cls ≠ "java/lang/invoke/MethodHandle" ∧ y.cls ≠ "java/lang/invoke/VarHandle") ∧
  (∀ sig, parseMethodDescriptor y.desc = some sig → n = sig.parameters.length) ∧ (Cond.methodLink own index y).before args s = true ∧ (Cond.instanceMethod y).before args s = true ∧ (Cond.selects C y y).before args s = true
theorem vx_cwVW {own C : String} {index maxL mc ms : Nat} {y : MethodName} {bytes : ByteArray} {ret : Option FieldType} {hh : List (Nat × Nat × Nat × Nat)} {Ts ws ws' : List Cond} {rm : Room} (n : Nat) (ht : ∀ w ∈ Ts, w.before args s = true) (hT : GoodIn Ts (wsV own index C y ws)) (hw : ws = Cond.codeWith y bytes maxL ret hh :: ws') (hrc : rm.cells = mc) (hrs : rm.slots = ms)
    (hd : y.cls = C ∧ y.cls ≠ "java/lang/invoke/MethodHandle" ∧ y.cls ≠ "java/lang/invoke/VarHandle" ∧ (parseMethodDescriptor y.desc).map (fun d => d.parameters.length) = some n) (hR : rm.frames + 1 ≤ R.frames ∧ 8 + (maxL + 11) + rm.locals ≤ R.locals) :
    vx_CVW R s args own C index y bytes maxL ret hh ws rm mc ms n := by
  obtain ⟨hC, hd⟩ := hd
  subst hC
  have ok : ∀ w ∈ wsV own index y.cls y ws, w.before args s = true := fun w h => ht w (hT w h).1
  have hG : GoodIn Ts ws := fun w h => hT w (by unfold wsV; exact List.mem_append_right _ h)
  have hc : Cond.codeWith y bytes maxL ret hh ∈ ws := by rw [hw]; exact List.mem_cons_self
  refine ⟨⟨hrc, hrs, hR.1, hR.2, pay_in ht hG, hc⟩, ht _ (hG _ hc).1, ok _ (by simp [wsV]), ⟨hd.1, hd.2.1⟩, fun sig h => ?_, ok _ (by simp [wsV]), ok _ (by simp [wsV]), ok _ (by simp [wsV])⟩
  have h2 := hd.2.2
  rw [h] at h2
  exact (Option.some.inj h2).symm
theorem vx_runVW {y : MethodName} {bytes cc : ByteArray} {maxL nL mc ms n index : Nat} {ret : Option FieldType} {hh : List (Nat × Nat × Nat × Nat)} {ws : List Cond} {rm : Room} {Pc : Array Value → State → Prop} {Qc : Array Value → State → Outcome → State → Prop} {free : Addr → Prop} {Ts : List Cond} {own C : String} {b : Addr} {As rest : List Value} {g : JFrame}
    (S : CallFix p m c cc nL s args Ts own) (hM : Met l y ws rm Pc Qc mc ms free) (cw : vx_CVW R s args own C index y bytes maxL ret hh ws rm mc ms n) (hp : PreV s H C b Pc As)
    (hg : g.method = m) (hn : As.length = n) (hsize : g.locals.size = nL) (hstack : g.stack = As.reverse ++ .ref b :: rest) (hW : 2 * g.monitorRoom + (rest.map fun v => v.category).sum ≤ 8) (hdg : decode cc g.pc = .ok (.invokevirtual index, 3)) (hf : cells + mc ≤ R.cells ∧ slots + ms ≤ R.slots) :
    va_Run p l e R s m args below meth c H locs cells slots mc ms g rest (Qc (Value.ref b :: As).toArray) free := by
  obtain ⟨⟨hrc, hrs, hfr, hlo, hws, hcw⟩, hcode, hini, hy, hlen, hl, hin, hse⟩ := cw
  have hK : Back l R p e below s args y 3 8 (PreOf R mc ms Pc) (PostOf Qc mc ms free) := va_backW (hh := hh) (bytes := bytes) (maxL := maxL) (ret := ret) hM hp.1 hrc hrs hfr hlo hws hcw (fun a' U hW => word_at hW (Or.inl (by first | rfl | simp [Cond.onTables, Cond.keeps, Cond.steady])) hini)
  obtain ⟨hx, hb, hml, ho, -⟩ := S
  obtain ⟨-, ⟨cellB, hcB, hoB, hclB⟩, hPc⟩ := hp
  intro T hT X
  obtain ⟨v, vm₁, ⟨U', l2, c2, s2⟩, hW₁, X', ⟨g', mk, t, L, e1, e2, hq, h1, hL, h2, h3⟩, st⟩ := vx_callVW X hx (C := C) (hh := hh) (bytes := bytes) (maxL := maxL) (ret := ret) ho hl hin hse hcode hy hK (by rw [hT]; exact hcB) hoB hclB hg (hsize.trans hml.symm) (argsL := As) (rest := rest) (fun sig h => hn.trans (hlen sig h)) hstack hW (by rw [hb]; exact hdg)
    (fun vm₁ hW₁ => ⟨hf.1, hf.2, hPc (T.setVm vm₁) hT hW₁⟩)
  dsimp only [Pt.U, Pt.locs, Pt.cells, Pt.slots] at X' e1 e2 h1 h2 h3 st
  subst h1; subst h2; subst h3
  exact ⟨v, (T.setVm vm₁).calling g' mk (Value.ref b :: As).toArray, t, U', L, hT, X', hL, e1, e2, hq, st⟩
section
variable {y : MethodName} {bytes cc : ByteArray} {maxL nL mc ms n index : Nat} {ret : Option FieldType} {ws : List Cond} {rm : Room} {Pc : Array Value → State → Prop} {Qc : Array Value → State → Outcome → State → Prop} {XC : String → State → State → Prop} {free : Addr → Prop} {Ts : List Cond} {own C : String} {b : Addr} {As rest : List Value} {g : JFrame}
theorem vx_runVX {hh : List (Nat × Nat × Nat × Nat)} (S : CallFix p m c cc nL s args Ts own) (hM : vx_Met l y ws rm Pc Qc XC mc ms free) (cw : vx_CVW R s args own C index y bytes maxL ret hh ws rm mc ms n) (hp : PreV s H C b Pc As)
    (hg : g.method = m) (hn : As.length = n) (hsize : g.locals.size = nL) (hstack : g.stack = As.reverse ++ .ref b :: rest) (hW : 2 * g.monitorRoom + (rest.map fun v => v.category).sum ≤ 8) (hdg : decode cc g.pc = .ok (.invokevirtual index, 3)) (hf : cells + mc ≤ R.cells ∧ slots + ms ≤ R.slots) :
    vx_Run p l e R s m args below meth c H locs cells slots mc ms g rest (Qc (Value.ref b :: As).toArray) XC free := by
  obtain ⟨⟨hrc, hrs, hfr, hlo, hws, hcw⟩, hcode, hini, hy, hlen, hl, hin, hse⟩ := cw
  have hK : vx_Back l R p e below s args y 3 8 (PreOf R mc ms Pc) (PostOf Qc mc ms free) (vx_Post XC mc ms free) := vx_backW (hh := hh) (bytes := bytes) (maxL := maxL) (ret := ret) hM hp.1 hrc hrs hfr hlo hws hcw (fun a' U hW => word_at hW (Or.inl (by first | rfl | simp [Cond.onTables, Cond.keeps, Cond.steady])) hini)
  obtain ⟨hx, hb, hml, ho, -⟩ := S
  obtain ⟨-, ⟨cellB, hcB, hoB, hclB⟩, hPc⟩ := hp
  intro T hT X
  rcases vx_callVX X hx (C := C) (hh := hh) (bytes := bytes) (maxL := maxL) (ret := ret) ho hl hin hse hcode hy hK (by rw [hT]; exact hcB) hoB hclB hg (hsize.trans hml.symm) (argsL := As) (rest := rest) (fun sig h => hn.trans (hlen sig h)) hstack hW (by rw [hb]; exact hdg)
    (fun vm₁ hW₁ => ⟨hf.1, hf.2, hPc (T.setVm vm₁) hT hW₁⟩) with ⟨v, vm₁, ⟨U', l2, c2, s2⟩, hW₁, X', ⟨g', mk, t, L, e1, e2, hq, h1, hL, h2, h3⟩, st⟩ | ⟨q, vm₁, ⟨U', l2, c2, s2⟩, hW₁, X', ⟨g', mk, t, L, E, ce, e1, e2, hq, hce, hcv, hcl, h1, hL, h2, h3⟩, st⟩
  · dsimp only [Pt.U, Pt.locs, Pt.cells, Pt.slots] at X' e1 e2 h1 h2 h3 st
    subst h1; subst h2; subst h3
    exact Or.inl ⟨v, (T.setVm vm₁).calling g' mk (Value.ref b :: As).toArray, t, U', L, hT, X', hL, e1, e2, hq, st⟩
  · dsimp only [Pt.U, Pt.locs, Pt.cells, Pt.slots] at X' e1 e2 h1 h2 h3 st hcl
    subst h1; subst h2; subst h3
    exact Or.inr ⟨q, (T.setVm vm₁).calling g' mk (Value.ref b :: As).toArray, t, U', L, E, ce, hT, X', hL, e1, e2, hq, hce, hcv, vx_cls hW₁ hcl, st⟩
theorem vx_runSX {hh : List (Nat × Nat × Nat × Nat)} (S : CallFix p m c cc nL s args Ts own) (hM : vx_Met l y ws rm Pc Qc XC mc ms free) (cw : vx_CSW R s args own index y bytes maxL ret hh ws rm mc ms n) (hp : PreS s H Pc As)
    (hg : g.method = m) (hn : As.length = n) (hsize : g.locals.size = nL) (hstack : g.stack = As.reverse ++ rest) (hW : 2 * g.monitorRoom + (rest.map fun v => v.category).sum ≤ 8) (hdg : decode cc g.pc = .ok (.invokestatic index, 3)) (hf : cells + mc ≤ R.cells ∧ slots + ms ≤ R.slots) :
    vx_Run p l e R s m args below meth c H locs cells slots mc ms g rest (Qc As.toArray) XC free := by
  obtain ⟨⟨hrc, hrs, hfr, hlo, hws, hcw⟩, hcode, hini, hy, hlen, hl, hstt⟩ := cw
  have hK : vx_Back l R p e below s args y 3 8 (PreOf R mc ms Pc) (PostOf Qc mc ms free) (vx_Post XC mc ms free) := vx_backW (hh := hh) (bytes := bytes) (maxL := maxL) (ret := ret) hM hp.1 hrc hrs hfr hlo hws hcw (fun a' U hW => word_at hW (Or.inl (by first | rfl | simp [Cond.onTables, Cond.keeps, Cond.steady])) hini)
  obtain ⟨hx, hb, hml, ho, -⟩ := S
  intro T hT X
  rcases vx_callSX X hx (hh := hh) (bytes := bytes) (maxL := maxL) (ret := ret) ho hl hstt hini hcode hy hK hg (hsize.trans hml.symm) (argsL := As) (rest := rest) (fun sig h => hn.trans (hlen sig h)) hstack hW (by rw [hb]; exact hdg)
    (fun vm₁ hW₁ => ⟨hf.1, hf.2, hp.2 (T.setVm vm₁) hT hW₁⟩) with ⟨v, vm₁, ⟨U', l2, c2, s2⟩, hW₁, X', ⟨g', mk, t, L, e1, e2, hq, h1, hL, h2, h3⟩, st⟩ | ⟨q, vm₁, ⟨U', l2, c2, s2⟩, hW₁, X', ⟨g', mk, t, L, E, ce, e1, e2, hq, hce, hcv, hcl, h1, hL, h2, h3⟩, st⟩
  · dsimp only [Pt.U, Pt.locs, Pt.cells, Pt.slots] at X' e1 e2 h1 h2 h3 st
    subst h1; subst h2; subst h3
    exact Or.inl ⟨v, (T.setVm vm₁).calling g' mk As.toArray, t, U', L, hT, X', hL, e1, e2, hq, st⟩
  · dsimp only [Pt.U, Pt.locs, Pt.cells, Pt.slots] at X' e1 e2 h1 h2 h3 st hcl
    subst h1; subst h2; subst h3
    exact Or.inr ⟨q, (T.setVm vm₁).calling g' mk As.toArray, t, U', L, E, ce, hT, X', hL, e1, e2, hq, hce, hcv, vx_cls hW₁ hcl, st⟩
end
end VXH
theorem vx_ofWH {l : Launch} {y : MethodName} {ws ws' : List Cond} {rm : Room} {Pc : Array Value → State → Prop} {Qc : Array Value → State → Outcome → State → Prop} {XC : String → State → State → Prop} {mc ms : Nat} {free : Addr → Prop} {cc : ByteArray} {maxL : Nat} {ret : Option FieldType} {hh : List (Nat × Nat × Nat × Nat)}
    (hy : plainName y.cls = true) (hw : ws = Cond.codeWith y cc maxL ret hh :: ws')
    (body : ∀ p e s m args below meth c s₁, BodyLoose p l y (headSpec ws rm) cc maxL ret e s m args below meth c s₁ → c.maxLocals = maxL → Pc args s →
      W p l e (headSpec ws rm).room s m args below meth c s.heap [] 0 0 (vx_MQ below Qc XC args s mc ms free) (entryFrame m args maxL)) : vx_Met l y ws rm Pc Qc XC mc ms free := by
  refine MetFree.of_bodyS (code := cc) (maxLocals := maxL) (ret := ret) hy ?_ ?_
  · intro args s m h hn
    obtain ⟨m9, meth, c, hn9, h1, h2, h3, h4, -, h5, h6, -⟩ := Cond.codeWith_spec (atoms_spec (ws := ws) h _ (by rw [hw]; exact List.mem_cons_self))
    cases hn.symm.trans hn9
    exact ⟨meth, c, h1, h2, h3, h4, h5, h6⟩
  · intro p e s m args below meth c s₁ B hml hP _
    have hh0 : s₁.heap = s.heap := by rw [B.state]; rfl
    obtain ⟨t, a1, o, b1, b2, b3⟩ := body p e s m args below meth c s₁ B hml hP s₁ hh0 (Stand.of_body B)
    exact ⟨t, o, a1, b1, b2, b3⟩
/-! ===== END ===== -/

/-- the words of a machine's throw with a message, but the four that speak of the heap -/
def vx_atM (X : String) (names : List String) : List Cond := (Bundle.messageArmAtoms X names).filter vx_no
end
section
/-! CATCHING, over the rounds' library: the rows of a method's own table are looked through, each may be linked for the first time there. -/
section XC
/-- the search in S ends at the handler hp and leaves the tables v -/
def xc_F (e : Env) (S : State) (f : JFrame) (a : Addr) (hp : Nat) (v : Vm) : Prop := ∀ (Q : Handler → Pre) (E : CtlPost) (d : Bool) (acts : List Action), wp (findHandler f a) Q E e d acts S ↔ Q (.found hp) d acts (S.setVm v)
/-- one row that covers the place and names a type: taken if the thing is of it, passed if not -/
theorem xc_row {Q : Handler → Pre} {E : CtlPost} {e : Env} {d : Bool} {acts : List Action} {s : State} {f : JFrame} {a : Addr} {x : ExceptionTableEntry} {t : List ExceptionTableEntry} {k : ClassId} {cell : Cell} (hx : covers x f.pc = true) (h0 : x.catchType ≠ 0)
    (hl : s.vm.ClassLinks e.platform f.method.cls x.catchType k) (hcell : s.heap[a]? = some cell) (hobj : ∀ z, cell.vm ≠ .statics z) (h1 : ∃ z, s.vm.classes[cell.cls]? = some z) (h2 : ∃ z, s.vm.classes[k]? = some z) :
    wp (findHandler.go f a (x :: t)) Q E e d acts s ↔ if s.vm.assignable cell.cls k = true then Q (.found x.handlerPc) d acts (s.setVm (s.vm.noted f.method.cls x.catchType (.cls k))) else wp (findHandler.go f a t) Q E e d acts (s.setVm (s.vm.noted f.method.cls x.catchType (.cls k))) := by
  simp only [covers] at hx
  obtain ⟨ha, ht⟩ := (resolveClass_links e.toSetting hl).op (op := VmOp.resolveClass f.method.cls x.catchType) rfl
  have hal : s.vm.Alike (s.vm.noted f.method.cls x.catchType (.cls k)) := (Vm.Alike.refl s.vm).noted _ _ _
  obtain ⟨z1, hz1⟩ := h1
  obtain ⟨z2, hz2⟩ := h2
  obtain ⟨y1, hy1, -⟩ := hal.2.2 _ _ hz1
  obtain ⟨y2, hy2, -⟩ := hal.2.2 _ _ hz2
  cases hf : s.vm.assignable cell.cls k with
  | true =>
    rw [if_pos rfl]
    have hf' : (s.vm.noted f.method.cls x.catchType (.cls k)).assignable cell.cls k = true := by rw [hal.assignable]; exact hf
    simp [findHandler.go, hx, h0, ha, ht, hcell, hobj, hy1, hy2, hf', VmOp.dirties, VmOp.acts]
  | false =>
    rw [if_neg (by decide)]
    have hf' : (s.vm.noted f.method.cls x.catchType (.cls k)).assignable cell.cls k = false := by rw [hal.assignable]; exact hf
    simp [findHandler.go, hx, h0, ha, ht, hcell, hobj, hy1, hy2, hf', VmOp.dirties, VmOp.acts]
/-- the rows ahead don't take it, the row x does -/
theorem xc_go {e : Env} {s0 : State} {f : JFrame} {a : Addr} {cell : Cell} {x : ExceptionTableEntry} {k : ClassId} (rest : List ExceptionTableEntry) (hobj : ∀ z, cell.vm ≠ .statics z) (h1 : ∃ z, s0.vm.classes[cell.cls]? = some z)
    (hx : covers x f.pc = true) (h0 : x.catchType ≠ 0) (hl : s0.vm.ClassLinks e.platform f.method.cls x.catchType k) (hfit : s0.vm.assignable cell.cls k = true) :
    ∀ (ahead : List ExceptionTableEntry) (S : State), s0.WarmedH S.vm → S.heap[a]? = some cell → (∀ z ∈ ahead, covers z f.pc = false ∨ (z.catchType ≠ 0 ∧ ∃ j, s0.vm.ClassLinks e.platform f.method.cls z.catchType j ∧ s0.vm.assignable cell.cls j = false)) →
      ∃ v, s0.WarmedH v ∧ ∀ (Q : Handler → Pre) (E : CtlPost) (d : Bool) (acts : List Action), wp (findHandler.go f a (ahead ++ x :: rest)) Q E e d acts S ↔ Q (.found x.handlerPc) d acts (S.setVm v) := by
  obtain ⟨z1, hz1⟩ := h1
  intro ahead
  induction ahead with
  | nil =>
    intro S hW hcell _
    obtain ⟨y1, hy1, -⟩ := hW.alike.2.2 _ _ hz1
    obtain ⟨dk, _, _, kt, hd, _, _, _, _, hkt, _, hop⟩ := hl.here
    obtain ⟨kt', hkt', -⟩ := hW.alike.2.2 _ _ hkt
    refine ⟨_, hW.noted hd hop (State.rightAt_cls hl), fun Q E d acts => ?_⟩
    rw [List.nil_append, xc_row hx h0 (hW.classLinks hl) hcell hobj ⟨y1, hy1⟩ ⟨kt', hkt'⟩, if_pos (by rw [hW.alike.assignable]; exact hfit)]
  | cons z zs ih =>
    intro S hW hcell hpass
    obtain ⟨y1, hy1, -⟩ := hW.alike.2.2 _ _ hz1
    have hrest := fun w hw => hpass w (List.mem_cons_of_mem z hw)
    cases hcov : covers z f.pc with
    | false =>
      obtain ⟨v, hW', hq⟩ := ih S hW hcell hrest
      refine ⟨v, hW', fun Q E d acts => ?_⟩
      rw [List.cons_append, W.findHandler_go_skip hcov]
      exact hq Q E d acts
    | true =>
      rcases hpass z List.mem_cons_self with h | ⟨hz0, j, hlj, hno⟩
      · rw [h] at hcov; cases hcov
      · obtain ⟨dk, _, _, kt, hd, _, _, _, _, hkt, _, hop⟩ := hlj.here
        obtain ⟨kt', hkt', -⟩ := hW.alike.2.2 _ _ hkt
        obtain ⟨v, hW', hq⟩ := ih (S.setVm (S.vm.noted f.method.cls z.catchType (.cls j))) (hW.noted hd hop (State.rightAt_cls hlj)) hcell hrest
        refine ⟨v, hW', fun Q E d acts => ?_⟩
        rw [List.cons_append, xc_row hcov hz0 (hW.classLinks hlj) hcell hobj ⟨y1, hy1⟩ ⟨kt', hkt'⟩, if_neg (by rw [hW.alike.assignable, hno]; decide)]
        exact hq Q E d acts
theorem xc_step {e : Env} {s : State} {a : Addr} {f : JFrame} {r : List Frame} {hp : Nat} {v : Vm} (hfind : xc_F e s f a hp v) : (stepThrowing e s a (.java f :: r)).Is ((s.setVm v).setFrames (.java { f with pc := hp, stack := [.ref a] } :: r)) [] := by
  simp only [stepThrowing, searchFrame, vmDo]
  generalize hr : Sem.go _ e false [] s = res
  obtain ⟨as, rfl, ha⟩ := Sem.eq_ok_of hr (a := Handler.found hp) (s' := s.setVm v) (acts' := []) (by simp [hfind _ _ _ _])
  exact ⟨rfl, ha⟩
theorem xc_ff (u : State) (v : Vm) (F F2 : List Frame) : ((u.setFrames F).setVm v).setFrames F2 = (u.setVm v).setFrames F2 := by
  rw [show (u.setFrames F).setVm v = (u.setVm v).setFrames F from rfl, State.setFrames_setFrames]
theorem xc_steps {tb : Tables} {e : Env} {s target : State} {g : JFrame} {c : Code} {below : List Frame} {a : Addr} (h : At s g.method c below) {hp : Nat} {v : Vm} (hfind : xc_F e ((s.setTop g).pushFrame (.throwing a)) g a hp v)
    (hrest : Steps tb e below ((s.setVm v).setTop { g with pc := hp, stack := [.ref a] }) target) : Steps tb e below ((s.setTop g).pushFrame (.throwing a)) target := by
  obtain ⟨hgo, hw⟩ := h.throwing a
  refine Steps.head hgo hw ?_
  rw [stepThread_throwing (frames_entered h.top _), (xc_step (s := (s.setTop g).pushFrame (.throwing a)) hfind).1]
  obtain ⟨g0, hg⟩ := Option.isSome_iff_exists.mp h.top
  obtain ⟨r, hr⟩ := State.topJava?_eq_some.mp hg
  have hr' : (s.setVm v).frames = .java g0 :: r := hr
  rw [State.setTop_of_frames _ hr'] at hrest
  rw [hr, List.tail_cons, State.pushFrame, xc_ff, State.setTop_of_frames _ hr, xc_ff]
  exact hrest
variable {p : Program} {l : Launch} {e : Env} {R : Room} {s : State} {m : MethodId} {args : Array Value} {below : List Frame} {meth : Method} {c : Code} {H : Heap} {locs : List Loc} {cells slots : Nat} {Q : State → Prop} {pc : Nat} {ls : Array Slot} {rest : List Value}
/-- caught by the row x of this method's table; the rows ahead don't take it -/
theorem xc_catch {own name E : String} {ce : Cell} {q : Addr} (hown : s.vm.findClass own = some m.cls) (ahead : List ExceptionTableEntry) (x : ExceptionTableEntry) (suf : List ExceptionTableEntry) (hsplit : c.exceptionTable.toList = ahead ++ x :: suf)
    (hpass : ∀ z ∈ ahead, covers z pc = false ∨ (z.catchType ≠ 0 ∧ ∃ nm : String, (Cond.classLink own z.catchType nm).before args s = true ∧ va_Nc E nm s)) (hx : covers x pc = true) (h0 : x.catchType ≠ 0)
    (hlink : (Cond.classLink own x.catchType name).before args s = true) (hcast : (Cond.castable E name).before args s = true) (hcell : H[q]? = some ce) (hv : ce.vm = .none) (hcl : s.vm.findClass E = some ce.cls)
    (kk : W p l e R s m args below meth c H locs cells slots Q (F0 m x.handlerPc ls [.ref q])) : vx_W p l e R s m args below meth c H locs cells slots Q (F0 m pc ls rest) q := by
  intro T hT X
  have hpl : e.platform.magicAccessors = ({} : Platform).magicAccessors := by rw [X.admits.platform]
  obtain ⟨c3, c4, hc3, hc4, hasg⟩ := Cond.castable_spec hcast
  cases Option.some.inj (hc3.symm.trans hcl)
  obtain ⟨c5, hc5, hcl5⟩ := Cond.classLink_spec hown hlink e.platform hpl
  cases Option.some.inj (hc4.symm.trans hc5)
  obtain ⟨k9, hk9, -⟩ := Vm.findClass_spec hcl
  obtain ⟨v, hW, hq⟩ := xc_go (e := e) (s0 := s) (f := F0 m pc ls rest) (a := q) (cell := ce) (x := x) (k := c4) suf (fun z => by rw [hv]; exact fun h => by cases h) ⟨k9, hk9⟩ hx h0 hcl5 hasg ahead ((T.setTop (F0 m pc ls rest)).pushFrame (.throwing q)) X.warmed (by show T.heap[q]? = _; rw [hT]; exact hcell)
    (fun z hz => by
      rcases hpass z hz with h | ⟨hz0, nm, hl1, a8, b8, q1, q2, q3⟩
      · exact Or.inl h
      · obtain ⟨c6, hc6, hcl6⟩ := Cond.classLink_spec hown hl1 e.platform hpl
        cases Option.some.inj (q1.symm.trans hcl)
        cases Option.some.inj (q2.symm.trans hc6)
        exact Or.inr ⟨hz0, _, hcl6, q3⟩)
  obtain ⟨t, a1, b1⟩ := kk (T.setVm v) hT (X.noted hW)
  refine ⟨t, xc_steps (g := F0 m pc ls rest) X.here (fun Q E d acts => ?_) a1, b1⟩
  rw [W.findHandler_eq (meth := meth) (code := c) X.method' X.code, hsplit]
  exact hq Q E d acts
end XC
end
section
/-! ===== BEGIN printed: names, fields, word lists, decode rows ===== -/
def RX0 : String := "HandleHeap"
def TX0 : u_T := fun k => match k with
  | 0 => ("HandleHeap", "heap", "[I", true)
  | 1 => ("HandleHeap", "begin", "[I", true)
  | 2 => ("HandleHeap", "length", "[I", true)
  | 3 => ("HandleHeap", "isFixed", "[Z", true)
  | 4 => ("HandleHeap", "isLocked", "[Z", true)
  | 5 => ("HandleHeap", "isLosable", "[Z", true)
  | 6 => ("HandleHeap", "row", "[I", true)
  | 7 => ("HandleHeap", "blocks", "I", false)
  | 8 => ("HandleHeap", "bytesMoved", "I", false)
  | _ => ("HandleHeap", "blocksLost", "I", false)
def tyX0 : Nat → FieldType := fun k => match k with
  | 0 => .array .int
  | 1 => .array .int
  | 2 => .array .int
  | 3 => .array .boolean
  | 4 => .array .boolean
  | 5 => .array .boolean
  | 6 => .array .int
  | 7 => .int
  | 8 => .int
  | _ => .int
abbrev wsX00 : List Cond := u_ws RX0 TX0 10
theorem nmX0 : ∀ a, a < 10 → ∀ b, b < 10 → a ≠ b → (TX0 a).2.1 ≠ (TX0 b).2.1 := by decide +kernel
theorem tyX0_ok : ∀ k, k < 10 → parseFieldDescriptor (TX0 k).2.2.1 = some (tyX0 k) := by decide +kernel
abbrev cX0_init : ByteArray := prog_1_method_1_code
def yX0_init : MethodName := ⟨RX0, "<init>", "()V"⟩
abbrev cX0_ask : ByteArray := prog_1_method_2_code
def yX0_ask : MethodName := ⟨RX0, "ask", "(IZ)I"⟩
abbrev cX0_drop : ByteArray := prog_1_method_3_code
def yX0_drop : MethodName := ⟨RX0, "drop", "(I)I"⟩
abbrev cX0_resize : ByteArray := prog_1_method_4_code
def yX0_resize : MethodName := ⟨RX0, "resize", "(II)Z"⟩
abbrev cX0_lock : ByteArray := prog_1_method_5_code
def yX0_lock : MethodName := ⟨RX0, "lock", "(IZ)Z"⟩
abbrev cX0_losable : ByteArray := prog_1_method_6_code
def yX0_losable : MethodName := ⟨RX0, "losable", "(IZ)Z"⟩
abbrev cX0_lose : ByteArray := prog_1_method_7_code
def yX0_lose : MethodName := ⟨RX0, "lose", "(I)Z"⟩
abbrev cX0_lift : ByteArray := prog_1_method_8_code
def yX0_lift : MethodName := ⟨RX0, "lift", "(I)I"⟩
abbrev cX0_slide : ByteArray := prog_1_method_9_code
def yX0_slide : MethodName := ⟨RX0, "slide", "()I"⟩
abbrev cX0_clear : ByteArray := prog_1_method_10_code
def yX0_clear : MethodName := ⟨RX0, "clear", "(I)I"⟩
abbrev cX0_where : ByteArray := prog_1_method_11_code
def yX0_where : MethodName := ⟨RX0, "where", "(I)I"⟩
abbrev cX0_size : ByteArray := prog_1_method_12_code
def yX0_size : MethodName := ⟨RX0, "size", "(I)I"⟩
abbrev cX0_put : ByteArray := prog_1_method_13_code
def yX0_put : MethodName := ⟨RX0, "put", "(III)I"⟩
abbrev cX0_get : ByteArray := prog_1_method_14_code
def yX0_get : MethodName := ⟨RX0, "get", "(II)I"⟩
abbrev cX0_owner : ByteArray := prog_1_method_15_code
def yX0_owner : MethodName := ⟨RX0, "owner", "(I)I"⟩
abbrev cX0_told : ByteArray := prog_1_method_16_code
def yX0_told : MethodName := ⟨RX0, "told", "(I)I"⟩
abbrev cX0_checkHandle : ByteArray := prog_1_method_17_code
def yX0_checkHandle : MethodName := ⟨RX0, "checkHandle", "(I)V"⟩
abbrev cX0_checkInUse : ByteArray := prog_1_method_18_code
def yX0_checkInUse : MethodName := ⟨RX0, "checkInUse", "(I)V"⟩
abbrev cX0_checkHasBlock : ByteArray := prog_1_method_19_code
def yX0_checkHasBlock : MethodName := ⟨RX0, "checkHasBlock", "(I)V"⟩
abbrev cX0_checkBlockLength : ByteArray := prog_1_method_20_code
def yX0_checkBlockLength : MethodName := ⟨RX0, "checkBlockLength", "(I)V"⟩
abbrev cX0_checkByte : ByteArray := prog_1_method_21_code
def yX0_checkByte : MethodName := ⟨RX0, "checkByte", "(II)V"⟩
abbrev cX0_leastUnused : ByteArray := prog_1_method_22_code
def yX0_leastUnused : MethodName := ⟨RX0, "leastUnused", "()I"⟩
abbrev cX0_countHandles : ByteArray := prog_1_method_23_code
def yX0_countHandles : MethodName := ⟨RX0, "countHandles", "(I)I"⟩
abbrev cX0_isMovable : ByteArray := prog_1_method_24_code
def yX0_isMovable : MethodName := ⟨RX0, "isMovable", "(I)Z"⟩
abbrev cX0_endOf : ByteArray := prog_1_method_25_code
def yX0_endOf : MethodName := ⟨RX0, "endOf", "(I)I"⟩
abbrev cX0_gapBegin : ByteArray := prog_1_method_26_code
def yX0_gapBegin : MethodName := ⟨RX0, "gapBegin", "(I)I"⟩
abbrev cX0_gapLength : ByteArray := prog_1_method_27_code
def yX0_gapLength : MethodName := ⟨RX0, "gapLength", "(I)I"⟩
abbrev cX0_firstGapOf : ByteArray := prog_1_method_28_code
def yX0_firstGapOf : MethodName := ⟨RX0, "firstGapOf", "(I)I"⟩
abbrev cX0_greatestGap : ByteArray := prog_1_method_29_code
def yX0_greatestGap : MethodName := ⟨RX0, "greatestGap", "()I"⟩
abbrev cX0_countGaps : ByteArray := prog_1_method_30_code
def yX0_countGaps : MethodName := ⟨RX0, "countGaps", "()I"⟩
abbrev cX0_freeBytes : ByteArray := prog_1_method_31_code
def yX0_freeBytes : MethodName := ⟨RX0, "freeBytes", "()I"⟩
abbrev cX0_freeBehind : ByteArray := prog_1_method_32_code
def yX0_freeBehind : MethodName := ⟨RX0, "freeBehind", "(I)I"⟩
abbrev cX0_enterRow : ByteArray := prog_1_method_33_code
def yX0_enterRow : MethodName := ⟨RX0, "enterRow", "(I)V"⟩
abbrev cX0_leaveRow : ByteArray := prog_1_method_34_code
def yX0_leaveRow : MethodName := ⟨RX0, "leaveRow", "(I)V"⟩
abbrev cX0_makeBlock : ByteArray := prog_1_method_35_code
def yX0_makeBlock : MethodName := ⟨RX0, "makeBlock", "(IIZ)Z"⟩
abbrev cX0_takeBlock : ByteArray := prog_1_method_36_code
def yX0_takeBlock : MethodName := ⟨RX0, "takeBlock", "(II)V"⟩
abbrev cX0_setLength : ByteArray := prog_1_method_37_code
def yX0_setLength : MethodName := ⟨RX0, "setLength", "(II)V"⟩
abbrev cX0_growElsewhere : ByteArray := prog_1_method_38_code
def yX0_growElsewhere : MethodName := ⟨RX0, "growElsewhere", "(II)Z"⟩
abbrev cX0_moveTo : ByteArray := prog_1_method_39_code
def yX0_moveTo : MethodName := ⟨RX0, "moveTo", "(II)V"⟩
abbrev cX0_giveUp : ByteArray := prog_1_method_40_code
def yX0_giveUp : MethodName := ⟨RX0, "giveUp", "(I)V"⟩
abbrev cX0_giveUpFirst : ByteArray := prog_1_method_41_code
def yX0_giveUpFirst : MethodName := ⟨RX0, "giveUpFirst", "(I)Z"⟩
abbrev cX0_slideTogether : ByteArray := prog_1_method_42_code
def yX0_slideTogether : MethodName := ⟨RX0, "slideTogether", "()V"⟩
abbrev cX0_findRoom : ByteArray := prog_1_method_43_code
def yX0_findRoom : MethodName := ⟨RX0, "findRoom", "(II)I"⟩
def RX1 : String := "HandleHeapModel"
def TX1 : u_T := fun k => match k with
  | 0 => ("HandleHeapModel", "thrown", "I", false)
  | 1 => ("HandleHeapModel", "used", "[Z", true)
  | 2 => ("HandleHeapModel", "begin", "[I", true)
  | 3 => ("HandleHeapModel", "size", "[I", true)
  | 4 => ("HandleHeapModel", "fixed", "[Z", true)
  | 5 => ("HandleHeapModel", "locked", "[Z", true)
  | 6 => ("HandleHeapModel", "losable", "[Z", true)
  | 7 => ("HandleHeapModel", "bytes", "[I", true)
  | 8 => ("HandleHeapModel", "moved", "I", false)
  | _ => ("HandleHeapModel", "lost", "I", false)
def tyX1 : Nat → FieldType := fun k => match k with
  | 0 => .int
  | 1 => .array .boolean
  | 2 => .array .int
  | 3 => .array .int
  | 4 => .array .boolean
  | 5 => .array .boolean
  | 6 => .array .boolean
  | 7 => .array .int
  | 8 => .int
  | _ => .int
abbrev wsX10 : List Cond := u_ws RX1 TX1 10
theorem nmX1 : ∀ a, a < 10 → ∀ b, b < 10 → a ≠ b → (TX1 a).2.1 ≠ (TX1 b).2.1 := by decide +kernel
theorem tyX1_ok : ∀ k, k < 10 → parseFieldDescriptor (TX1 k).2.2.1 = some (tyX1 k) := by decide +kernel
abbrev cX1_init : ByteArray := prog_3_method_1_code
def yX1_init : MethodName := ⟨RX1, "<init>", "()V"⟩
abbrev cX1_thrown : ByteArray := prog_3_method_2_code
def yX1_thrown : MethodName := ⟨RX1, "thrown", "()I"⟩
abbrev cX1_has : ByteArray := prog_3_method_3_code
def yX1_has : MethodName := ⟨RX1, "has", "(I)Z"⟩
abbrev cX1_isMovable : ByteArray := prog_3_method_4_code
def yX1_isMovable : MethodName := ⟨RX1, "isMovable", "(I)Z"⟩
abbrev cX1_firstFrom : ByteArray := prog_3_method_5_code
def yX1_firstFrom : MethodName := ⟨RX1, "firstFrom", "(I)I"⟩
abbrev cX1_freeTo : ByteArray := prog_3_method_6_code
def yX1_freeTo : MethodName := ⟨RX1, "freeTo", "(I)I"⟩
abbrev cX1_place : ByteArray := prog_3_method_7_code
def yX1_place : MethodName := ⟨RX1, "place", "(I)I"⟩
abbrev cX1_greatest : ByteArray := prog_3_method_8_code
def yX1_greatest : MethodName := ⟨RX1, "greatest", "()I"⟩
abbrev cX1_slideAll : ByteArray := prog_3_method_9_code
def yX1_slideAll : MethodName := ⟨RX1, "slideAll", "()V"⟩
abbrev cX1_loseOne : ByteArray := prog_3_method_10_code
def yX1_loseOne : MethodName := ⟨RX1, "loseOne", "(I)V"⟩
abbrev cX1_firstToLose : ByteArray := prog_3_method_11_code
def yX1_firstToLose : MethodName := ⟨RX1, "firstToLose", "(I)I"⟩
abbrev cX1_room : ByteArray := prog_3_method_12_code
def yX1_room : MethodName := ⟨RX1, "room", "(II)I"⟩
abbrev cX1_noSize : ByteArray := prog_3_method_13_code
def yX1_noSize : MethodName := ⟨RX1, "noSize", "(I)Z"⟩
abbrev cX1_notUsed : ByteArray := prog_3_method_14_code
def yX1_notUsed : MethodName := ⟨RX1, "notUsed", "(I)Z"⟩
abbrev cX1_become : ByteArray := prog_3_method_15_code
def yX1_become : MethodName := ⟨RX1, "become", "(III)V"⟩
abbrev cX1_ask : ByteArray := prog_3_method_16_code
def yX1_ask : MethodName := ⟨RX1, "ask", "(IZ)I"⟩
abbrev cX1_drop : ByteArray := prog_3_method_17_code
def yX1_drop : MethodName := ⟨RX1, "drop", "(I)I"⟩
abbrev cX1_resize : ByteArray := prog_3_method_18_code
def yX1_resize : MethodName := ⟨RX1, "resize", "(II)Z"⟩
abbrev cX1_notThere : ByteArray := prog_3_method_19_code
def yX1_notThere : MethodName := ⟨RX1, "notThere", "(I)Z"⟩
abbrev cX1_lock : ByteArray := prog_3_method_20_code
def yX1_lock : MethodName := ⟨RX1, "lock", "(IZ)Z"⟩
abbrev cX1_losable : ByteArray := prog_3_method_21_code
def yX1_losable : MethodName := ⟨RX1, "losable", "(IZ)Z"⟩
abbrev cX1_lose : ByteArray := prog_3_method_22_code
def yX1_lose : MethodName := ⟨RX1, "lose", "(I)Z"⟩
abbrev cX1_lift : ByteArray := prog_3_method_23_code
def yX1_lift : MethodName := ⟨RX1, "lift", "(I)I"⟩
abbrev cX1_slide : ByteArray := prog_3_method_24_code
def yX1_slide : MethodName := ⟨RX1, "slide", "()I"⟩
abbrev cX1_clear : ByteArray := prog_3_method_25_code
def yX1_clear : MethodName := ⟨RX1, "clear", "(I)I"⟩
abbrev cX1_where : ByteArray := prog_3_method_26_code
def yX1_where : MethodName := ⟨RX1, "where", "(I)I"⟩
abbrev cX1_size : ByteArray := prog_3_method_27_code
def yX1_size : MethodName := ⟨RX1, "size", "(I)I"⟩
abbrev cX1_put : ByteArray := prog_3_method_28_code
def yX1_put : MethodName := ⟨RX1, "put", "(III)I"⟩
abbrev cX1_get : ByteArray := prog_3_method_29_code
def yX1_get : MethodName := ⟨RX1, "get", "(II)I"⟩
abbrev cX1_owner : ByteArray := prog_3_method_30_code
def yX1_owner : MethodName := ⟨RX1, "owner", "(I)I"⟩
abbrev cX1_free : ByteArray := prog_3_method_31_code
def yX1_free : MethodName := ⟨RX1, "free", "(Z)I"⟩
abbrev cX1_told : ByteArray := prog_3_method_32_code
def yX1_told : MethodName := ⟨RX1, "told", "(I)I"⟩
def RJ5 : String := "java/lang/AbstractStringBuilder"
def TJ5 : u_T := fun k => match k with
  | _ => ("", "", "", false)
def tyJ5 : Nat → FieldType := fun k => match k with
  | _ => .int
abbrev wsJ50 : List Cond := u_ws RJ5 TJ5 0
theorem nmJ5 : ∀ a, a < 0 → ∀ b, b < 0 → a ≠ b → (TJ5 a).2.1 ≠ (TJ5 b).2.1 := by decide +kernel
theorem tyJ5_ok : ∀ k, k < 0 → parseFieldDescriptor (TJ5 k).2.2.1 = some (tyJ5 k) := by decide +kernel
abbrev cJ5_init_d00df : ByteArray := prog_4_method_2_code
def yJ5_init_d00df : MethodName := ⟨RJ5, "<init>", "(I)V"⟩
abbrev cJ5_length_8abf5 : ByteArray := prog_4_method_6_code
def yJ5_length_8abf5 : MethodName := ⟨RJ5, "length", "()I"⟩
abbrev cJ5_ensureCapacityInternal_d00df : ByteArray := prog_4_method_9_code
def yJ5_ensureCapacityInternal_d00df : MethodName := ⟨RJ5, "ensureCapacityInternal", "(I)V"⟩
abbrev cJ5_newCapacity_0f7a4 : ByteArray := prog_4_method_10_code
def yJ5_newCapacity_0f7a4 : MethodName := ⟨RJ5, "newCapacity", "(I)I"⟩
abbrev cJ5_inflate_da8c8 : ByteArray := prog_4_method_11_code
def yJ5_inflate_da8c8 : MethodName := ⟨RJ5, "inflate", "()V"⟩
abbrev cJ5_append_cf1ce : ByteArray := prog_4_method_22_code
def yJ5_append_cf1ce : MethodName := ⟨RJ5, "append", "(Ljava/lang/String;)Ljava/lang/AbstractStringBuilder;"⟩
abbrev cJ5_appendNull_278bc : ByteArray := prog_4_method_26_code
def yJ5_appendNull_278bc : MethodName := ⟨RJ5, "appendNull", "()Ljava/lang/AbstractStringBuilder;"⟩
abbrev cJ5_append_c97b9 : ByteArray := prog_4_method_32_code
def yJ5_append_c97b9 : MethodName := ⟨RJ5, "append", "(I)Ljava/lang/AbstractStringBuilder;"⟩
abbrev cJ5_getValue_6d5f1 : ByteArray := prog_4_method_64_code
def yJ5_getValue_6d5f1 : MethodName := ⟨RJ5, "getValue", "()[B"⟩
abbrev cJ5_isLatin1_aae02 : ByteArray := prog_4_method_68_code
def yJ5_isLatin1_aae02 : MethodName := ⟨RJ5, "isLatin1", "()Z"⟩
abbrev cJ5_inflateIfNeededFor_a7421 : ByteArray := prog_4_method_71_code
def yJ5_inflateIfNeededFor_a7421 : MethodName := ⟨RJ5, "inflateIfNeededFor", "(Ljava/lang/String;)V"⟩
abbrev cJ5_putStringAt_47b60 : ByteArray := prog_4_method_73_code
def yJ5_putStringAt_47b60 : MethodName := ⟨RJ5, "putStringAt", "(ILjava/lang/String;)V"⟩
def RJx00060 : String := "java/lang/ArrayIndexOutOfBoundsException"
def TJx00060 : u_T := fun k => match k with
  | 0 => ("java/lang/Throwable", "backtrace", "Ljava/lang/Object;", false)
  | 1 => ("java/lang/Throwable", "detailMessage", "Ljava/lang/String;", false)
  | 2 => ("java/lang/Throwable", "cause", "Ljava/lang/Throwable;", false)
  | 3 => ("java/lang/Throwable", "stackTrace", "[Ljava/lang/StackTraceElement;", false)
  | 4 => ("java/lang/Throwable", "depth", "I", false)
  | _ => ("java/lang/Throwable", "suppressedExceptions", "Ljava/util/List;", false)
def tyJx00060 : Nat → FieldType := fun k => match k with
  | 0 => .object "java/lang/Object"
  | 1 => .object "java/lang/String"
  | 2 => .object "java/lang/Throwable"
  | 3 => .array (.object "java/lang/StackTraceElement")
  | 4 => .int
  | _ => .object "java/util/List"
abbrev wsJx000600 : List Cond := u_ws RJx00060 TJx00060 6
theorem nmJx00060 : ∀ a, a < 6 → ∀ b, b < 6 → a ≠ b → (TJx00060 a).2.1 ≠ (TJx00060 b).2.1 := by decide +kernel
theorem tyJx00060_ok : ∀ k, k < 6 → parseFieldDescriptor (TJx00060 k).2.2.1 = some (tyJx00060 k) := by decide +kernel
abbrev cJx00060_init_d00df : ByteArray := prog_5_method_3_code
def yJx00060_init_d00df : MethodName := ⟨RJx00060, "<init>", "(I)V"⟩
def RJx8e188 : String := "java/lang/Cloneable"
def TJx8e188 : u_T := fun k => match k with
  | _ => ("", "", "", false)
def tyJx8e188 : Nat → FieldType := fun k => match k with
  | _ => .int
abbrev wsJx8e1880 : List Cond := u_ws RJx8e188 TJx8e188 0
theorem nmJx8e188 : ∀ a, a < 0 → ∀ b, b < 0 → a ≠ b → (TJx8e188 a).2.1 ≠ (TJx8e188 b).2.1 := by decide +kernel
theorem tyJx8e188_ok : ∀ k, k < 0 → parseFieldDescriptor (TJx8e188 k).2.2.1 = some (tyJx8e188 k) := by decide +kernel
def RJ6 : String := "java/lang/Integer"
def TJ6 : u_T := fun k => match k with
  | _ => ("", "", "", false)
def tyJ6 : Nat → FieldType := fun k => match k with
  | _ => .int
abbrev wsJ60 : List Cond := u_ws RJ6 TJ6 0
theorem nmJ6 : ∀ a, a < 0 → ∀ b, b < 0 → a ≠ b → (TJ6 a).2.1 ≠ (TJ6 b).2.1 := by decide +kernel
theorem tyJ6_ok : ∀ k, k < 0 → parseFieldDescriptor (TJ6 k).2.2.1 = some (tyJ6 k) := by decide +kernel
abbrev cJ6_getChars_ba4f3 : ByteArray := prog_11_method_12_code
def yJ6_getChars_ba4f3 : MethodName := ⟨RJ6, "getChars", "(II[B)I"⟩
abbrev cJ6_stringSize_0f7a4 : ByteArray := prog_11_method_13_code
def yJ6_stringSize_0f7a4 : MethodName := ⟨RJ6, "stringSize", "(I)I"⟩
def RJ9 : String := "java/lang/Math"
def TJ9 : u_T := fun k => match k with
  | _ => ("", "", "", false)
def tyJ9 : Nat → FieldType := fun k => match k with
  | _ => .int
abbrev wsJ90 : List Cond := u_ws RJ9 TJ9 0
theorem nmJ9 : ∀ a, a < 0 → ∀ b, b < 0 → a ≠ b → (TJ9 a).2.1 ≠ (TJ9 b).2.1 := by decide +kernel
theorem tyJ9_ok : ∀ k, k < 0 → parseFieldDescriptor (TJ9 k).2.2.1 = some (tyJ9 k) := by decide +kernel
abbrev cJ9_max_7cf53 : ByteArray := prog_12_method_65_code
def yJ9_max_7cf53 : MethodName := ⟨RJ9, "max", "(II)I"⟩
abbrev cJ9_min_7cf53 : ByteArray := prog_12_method_69_code
def yJ9_min_7cf53 : MethodName := ⟨RJ9, "min", "(II)I"⟩
def RJ0 : String := "java/lang/String"
def TJ0 : u_T := fun k => match k with
  | 0 => ("java/lang/String", "value", "[B", true)
  | 1 => ("java/lang/String", "coder", "B", true)
  | 2 => ("java/lang/String", "hash", "I", false)
  | _ => ("java/lang/String", "hashIsZero", "Z", false)
def tyJ0 : Nat → FieldType := fun k => match k with
  | 0 => .array .byte
  | 1 => .byte
  | 2 => .int
  | _ => .boolean
abbrev wsJ00 : List Cond := u_ws RJ0 TJ0 4
theorem nmJ0 : ∀ a, a < 4 → ∀ b, b < 4 → a ≠ b → (TJ0 a).2.1 ≠ (TJ0 b).2.1 := by decide +kernel
theorem tyJ0_ok : ∀ k, k < 4 → parseFieldDescriptor (TJ0 k).2.2.1 = some (tyJ0 k) := by decide +kernel
abbrev cJ0_init_81219 : ByteArray := prog_14_method_53_code
def yJ0_init_81219 : MethodName := ⟨RJ0, "<init>", "(Ljava/lang/StringBuilder;)V"⟩
abbrev cJ0_length_8abf5 : ByteArray := prog_14_method_54_code
def yJ0_length_8abf5 : MethodName := ⟨RJ0, "length", "()I"⟩
abbrev cJ0_getBytes_840e7 : ByteArray := prog_14_method_147_code
def yJ0_getBytes_840e7 : MethodName := ⟨RJ0, "getBytes", "([BIB)V"⟩
abbrev cJ0_init_db425 : ByteArray := prog_14_method_150_code
def yJ0_init_db425 : MethodName := ⟨RJ0, "<init>", "(Ljava/lang/AbstractStringBuilder;Ljava/lang/Void;)V"⟩
abbrev cJ0_coder_7d493 : ByteArray := prog_14_method_152_code
def yJ0_coder_7d493 : MethodName := ⟨RJ0, "coder", "()B"⟩
abbrev cJ0_checkBoundsOffCount_cabcc : ByteArray := prog_14_method_157_code
def yJ0_checkBoundsOffCount_cabcc : MethodName := ⟨RJ0, "checkBoundsOffCount", "(III)I"⟩
abbrev cJ0_checkBoundsBeginEnd_23922 : ByteArray := prog_14_method_158_code
def yJ0_checkBoundsBeginEnd_23922 : MethodName := ⟨RJ0, "checkBoundsBeginEnd", "(III)V"⟩
def RJ4 : String := "java/lang/StringBuilder"
def TJ4 : u_T := fun k => match k with
  | 0 => ("java/lang/AbstractStringBuilder", "value", "[B", false)
  | 1 => ("java/lang/AbstractStringBuilder", "coder", "B", false)
  | 2 => ("java/lang/AbstractStringBuilder", "maybeLatin1", "Z", false)
  | _ => ("java/lang/AbstractStringBuilder", "count", "I", false)
def tyJ4 : Nat → FieldType := fun k => match k with
  | 0 => .array .byte
  | 1 => .byte
  | 2 => .boolean
  | _ => .int
abbrev wsJ40 : List Cond := u_ws RJ4 TJ4 4
theorem nmJ4 : ∀ a, a < 4 → ∀ b, b < 4 → a ≠ b → (TJ4 a).2.1 ≠ (TJ4 b).2.1 := by decide +kernel
theorem tyJ4_ok : ∀ k, k < 4 → parseFieldDescriptor (TJ4 k).2.2.1 = some (tyJ4 k) := by decide +kernel
abbrev cJ4_init_da8c8 : ByteArray := prog_15_method_1_code
def yJ4_init_da8c8 : MethodName := ⟨RJ4, "<init>", "()V"⟩
abbrev cJ4_append_15ec4 : ByteArray := prog_15_method_7_code
def yJ4_append_15ec4 : MethodName := ⟨RJ4, "append", "(Ljava/lang/String;)Ljava/lang/StringBuilder;"⟩
abbrev cJ4_append_bf812 : ByteArray := prog_15_method_15_code
def yJ4_append_bf812 : MethodName := ⟨RJ4, "append", "(I)Ljava/lang/StringBuilder;"⟩
abbrev cJ4_toString_0e30d : ByteArray := prog_15_method_42_code
def yJ4_toString_0e30d : MethodName := ⟨RJ4, "toString", "()Ljava/lang/String;"⟩
abbrev cJ4_length_8abf5 : ByteArray := prog_15_method_93_code
def yJ4_length_8abf5 : MethodName := ⟨RJ4, "length", "()I"⟩
def RJ1 : String := "java/lang/StringLatin1"
def TJ1 : u_T := fun k => match k with
  | _ => ("", "", "", false)
def tyJ1 : Nat → FieldType := fun k => match k with
  | _ => .int
abbrev wsJ10 : List Cond := u_ws RJ1 TJ1 0
theorem nmJ1 : ∀ a, a < 0 → ∀ b, b < 0 → a ≠ b → (TJ1 a).2.1 ≠ (TJ1 b).2.1 := by decide +kernel
theorem tyJ1_ok : ∀ k, k < 0 → parseFieldDescriptor (TJ1 k).2.2.1 = some (tyJ1 k) := by decide +kernel
abbrev cJ1_inflate_0e8fd : ByteArray := prog_16_method_50_code
def yJ1_inflate_0e8fd : MethodName := ⟨RJ1, "inflate", "([BI[BII)V"⟩
def RJ2 : String := "java/lang/StringUTF16"
def TJ2 : u_T := fun k => match k with
  | _ => ("", "", "", false)
def tyJ2 : Nat → FieldType := fun k => match k with
  | _ => .int
abbrev wsJ20 : List Cond := u_ws RJ2 TJ2 0
theorem nmJ2 : ∀ a, a < 0 → ∀ b, b < 0 → a ≠ b → (TJ2 a).2.1 ≠ (TJ2 b).2.1 := by decide +kernel
theorem tyJ2_ok : ∀ k, k < 0 → parseFieldDescriptor (TJ2 k).2.2.1 = some (tyJ2 k) := by decide +kernel
abbrev cJ2_newBytesFor_77867 : ByteArray := prog_17_method_2_code
def yJ2_newBytesFor_77867 : MethodName := ⟨RJ2, "newBytesFor", "(I)[B"⟩
abbrev cJ2_newBytesLength_0f7a4 : ByteArray := prog_17_method_3_code
def yJ2_newBytesLength_0f7a4 : MethodName := ⟨RJ2, "newBytesLength", "(I)I"⟩
abbrev cJ2_putChar_b72d1 : ByteArray := prog_17_method_4_code
def yJ2_putChar_b72d1 : MethodName := ⟨RJ2, "putChar", "([BII)V"⟩
abbrev cJ2_getChar_3b067 : ByteArray := prog_17_method_5_code
def yJ2_getChar_3b067 : MethodName := ⟨RJ2, "getChar", "([BI)C"⟩
abbrev cJ2_length_9d52b : ByteArray := prog_17_method_6_code
def yJ2_length_9d52b : MethodName := ⟨RJ2, "length", "([B)I"⟩
abbrev cJ2_coderFromArrayLen_85cad : ByteArray := prog_17_method_15_code
def yJ2_coderFromArrayLen_85cad : MethodName := ⟨RJ2, "coderFromArrayLen", "([BI)B"⟩
abbrev cJ2_compress_39247 : ByteArray := prog_17_method_17_code
def yJ2_compress_39247 : MethodName := ⟨RJ2, "compress", "([BII)[B"⟩
abbrev cJ2_compress_5af95 : ByteArray := prog_17_method_22_code
def yJ2_compress_5af95 : MethodName := ⟨RJ2, "compress", "([BI[BII)I"⟩
abbrev cJ2_getChars_46870 : ByteArray := prog_17_method_77_code
def yJ2_getChars_46870 : MethodName := ⟨RJ2, "getChars", "(III[B)I"⟩
abbrev cJ2_putCharsAt_cd4e5 : ByteArray := prog_17_method_81_code
def yJ2_putCharsAt_cd4e5 : MethodName := ⟨RJ2, "putCharsAt", "([BICCCC)I"⟩
abbrev cJ2_inflate_0e8fd : ByteArray := prog_17_method_86_code
def yJ2_inflate_0e8fd : MethodName := ⟨RJ2, "inflate", "([BI[BII)V"⟩
abbrev cJ2_getChars_ba4f3 : ByteArray := prog_17_method_89_code
def yJ2_getChars_ba4f3 : MethodName := ⟨RJ2, "getChars", "(II[B)I"⟩
abbrev cJ2_checkBoundsBeginEnd_d044e : ByteArray := prog_17_method_93_code
def yJ2_checkBoundsBeginEnd_d044e : MethodName := ⟨RJ2, "checkBoundsBeginEnd", "(II[B)V"⟩
abbrev cJ2_checkBoundsOffCount_d044e : ByteArray := prog_17_method_94_code
def yJ2_checkBoundsOffCount_d044e : MethodName := ⟨RJ2, "checkBoundsOffCount", "(II[B)V"⟩
def RJ10 : String := "java/lang/System"
def TJ10 : u_T := fun k => match k with
  | _ => ("", "", "", false)
def tyJ10 : Nat → FieldType := fun k => match k with
  | _ => .int
abbrev wsJ100 : List Cond := u_ws RJ10 TJ10 0
theorem nmJ10 : ∀ a, a < 0 → ∀ b, b < 0 → a ≠ b → (TJ10 a).2.1 ≠ (TJ10 b).2.1 := by decide +kernel
theorem tyJ10_ok : ∀ k, k < 0 → parseFieldDescriptor (TJ10 k).2.2.1 = some (tyJ10 k) := by decide +kernel
def RJ7 : String := "java/util/Arrays"
def TJ7 : u_T := fun k => match k with
  | _ => ("", "", "", false)
def tyJ7 : Nat → FieldType := fun k => match k with
  | _ => .int
abbrev wsJ70 : List Cond := u_ws RJ7 TJ7 0
theorem nmJ7 : ∀ a, a < 0 → ∀ b, b < 0 → a ≠ b → (TJ7 a).2.1 ≠ (TJ7 b).2.1 := by decide +kernel
theorem tyJ7_ok : ∀ k, k < 0 → parseFieldDescriptor (TJ7 k).2.2.1 = some (tyJ7 k) := by decide +kernel
abbrev cJ7_rangeCheck_23922 : ByteArray := prog_20_method_30_code
def yJ7_rangeCheck_23922 : MethodName := ⟨RJ7, "rangeCheck", "(III)V"⟩
abbrev cJ7_fill_53178 : ByteArray := prog_20_method_103_code
def yJ7_fill_53178 : MethodName := ⟨RJ7, "fill", "([II)V"⟩
abbrev cJ7_fill_fda19 : ByteArray := prog_20_method_104_code
def yJ7_fill_fda19 : MethodName := ⟨RJ7, "fill", "([IIII)V"⟩
abbrev cJ7_copyOf_9075b : ByteArray := prog_20_method_121_code
def yJ7_copyOf_9075b : MethodName := ⟨RJ7, "copyOf", "([BI)[B"⟩
abbrev cJ7_checkLength_df160 : ByteArray := prog_20_method_131_code
def yJ7_checkLength_df160 : MethodName := ⟨RJ7, "checkLength", "(II)V"⟩
abbrev cJ7_copyOfRange_39247 : ByteArray := prog_20_method_132_code
def yJ7_copyOfRange_39247 : MethodName := ⟨RJ7, "copyOfRange", "([BII)[B"⟩
abbrev cJ7_copyOfRangeByte_39247 : ByteArray := prog_20_method_133_code
def yJ7_copyOfRangeByte_39247 : MethodName := ⟨RJ7, "copyOfRangeByte", "([BII)[B"⟩
def RJ8 : String := "jdk/internal/util/ArraysSupport"
def TJ8 : u_T := fun k => match k with
  | _ => ("", "", "", false)
def tyJ8 : Nat → FieldType := fun k => match k with
  | _ => .int
abbrev wsJ80 : List Cond := u_ws RJ8 TJ8 0
theorem nmJ8 : ∀ a, a < 0 → ∀ b, b < 0 → a ≠ b → (TJ8 a).2.1 ≠ (TJ8 b).2.1 := by decide +kernel
theorem tyJ8_ok : ∀ k, k < 0 → parseFieldDescriptor (TJ8 k).2.2.1 = some (tyJ8 k) := by decide +kernel
abbrev cJ8_newLength_cabcc : ByteArray := prog_21_method_27_code
def yJ8_newLength_cabcc : MethodName := ⟨RJ8, "newLength", "(III)I"⟩
abbrev cJ8_hugeLength_7cf53 : ByteArray := prog_21_method_28_code
def yJ8_hugeLength_7cf53 : MethodName := ⟨RJ8, "hugeLength", "(II)I"⟩
def RJ3 : String := "jdk/internal/util/Preconditions"
def TJ3 : u_T := fun k => match k with
  | _ => ("", "", "", false)
def tyJ3 : Nat → FieldType := fun k => match k with
  | _ => .int
abbrev wsJ30 : List Cond := u_ws RJ3 TJ3 0
theorem nmJ3 : ∀ a, a < 0 → ∀ b, b < 0 → a ≠ b → (TJ3 a).2.1 ≠ (TJ3 b).2.1 := by decide +kernel
theorem tyJ3_ok : ∀ k, k < 0 → parseFieldDescriptor (TJ3 k).2.2.1 = some (tyJ3 k) := by decide +kernel
abbrev cJ3_checkFromToIndex_8c36e : ByteArray := prog_22_method_12_code
def yJ3_checkFromToIndex_8c36e : MethodName := ⟨RJ3, "checkFromToIndex", "(IIILjava/util/function/BiFunction;)I"⟩
abbrev cJ3_checkFromIndexSize_8c36e : ByteArray := prog_22_method_13_code
def yJ3_checkFromIndexSize_8c36e : MethodName := ⟨RJ3, "checkFromIndexSize", "(IIILjava/util/function/BiFunction;)I"⟩
def RL : String := "HandleHeapLaw"
abbrev cL_ask : ByteArray := method_3_code
def yL_ask : MethodName := ⟨RL, "ask", "(LHandleHeap;IZ[J)I"⟩
abbrev cL_drop : ByteArray := method_4_code
def yL_drop : MethodName := ⟨RL, "drop", "(LHandleHeap;I[J)I"⟩
abbrev cL_resize : ByteArray := method_5_code
def yL_resize : MethodName := ⟨RL, "resize", "(LHandleHeap;II[J)I"⟩
abbrev cL_lock : ByteArray := method_6_code
def yL_lock : MethodName := ⟨RL, "lock", "(LHandleHeap;IZ[J)I"⟩
abbrev cL_losable : ByteArray := method_7_code
def yL_losable : MethodName := ⟨RL, "losable", "(LHandleHeap;IZ[J)I"⟩
abbrev cL_lose : ByteArray := method_8_code
def yL_lose : MethodName := ⟨RL, "lose", "(LHandleHeap;I[J)I"⟩
abbrev cL_lift : ByteArray := method_9_code
def yL_lift : MethodName := ⟨RL, "lift", "(LHandleHeap;I[J)I"⟩
abbrev cL_clear : ByteArray := method_10_code
def yL_clear : MethodName := ⟨RL, "clear", "(LHandleHeap;I[J)I"⟩
abbrev cL_where : ByteArray := method_11_code
def yL_where : MethodName := ⟨RL, "where", "(LHandleHeap;I[J)I"⟩
abbrev cL_size : ByteArray := method_12_code
def yL_size : MethodName := ⟨RL, "size", "(LHandleHeap;I[J)I"⟩
abbrev cL_put : ByteArray := method_13_code
def yL_put : MethodName := ⟨RL, "put", "(LHandleHeap;III[J)I"⟩
abbrev cL_get : ByteArray := method_14_code
def yL_get : MethodName := ⟨RL, "get", "(LHandleHeap;II[J)I"⟩
abbrev cL_owner : ByteArray := method_15_code
def yL_owner : MethodName := ⟨RL, "owner", "(LHandleHeap;I[J)I"⟩
abbrev cL_told : ByteArray := method_16_code
def yL_told : MethodName := ⟨RL, "told", "(LHandleHeap;I[J)I"⟩
abbrev cL_law : ByteArray := code
def yL_law : MethodName := ⟨RL, "law", "([I)Z"⟩
def wsJ7_fill_53178 : List Cond := .code yJ7_fill_53178 cJ7_fill_53178 4 none :: ([])
def wsX0_init : List Cond := .code yX0_init cX0_init 1 none :: ([.methodLink RX0 1 objectInit, .instanceMethod objectInit, .code objectInit ⟨#[0xb1]⟩ 1 none, .arrayClass .int, .fieldLink RX0 9 "HandleHeap" "heap" "[I", .fieldLink RX0 13 "HandleHeap" "begin" "[I", .fieldLink RX0 22 "HandleHeap" "length" "[I", .arrayClass .boolean, .fieldLink RX0 25 "HandleHeap" "isFixed" "[Z", .fieldLink RX0 29 "HandleHeap" "isLocked" "[Z", .fieldLink RX0 32 "HandleHeap" "isLosable" "[Z", .fieldLink RX0 35 "HandleHeap" "row" "[I", .fieldLink RX0 38 "HandleHeap" "blocks" "I", .fieldLink RX0 42 "HandleHeap" "bytesMoved" "I", .fieldLink RX0 45 "HandleHeap" "blocksLost" "I", .methodLink RX0 16 yJ7_fill_53178, .static yJ7_fill_53178, .initialized RJ7, .code yJ7_fill_53178 cJ7_fill_53178 4 none] ++ wsX00)
def wsX0_checkBlockLength : List Cond := .code yX0_checkBlockLength cX0_checkBlockLength 1 none :: ([.classLink RX0 104 "java/lang/IllegalArgumentException", .initialized "java/lang/IllegalArgumentException"] ++ (vx_atS RX0 108 "java/lang/IllegalArgumentException" ["java/lang/RuntimeException", "java/lang/Exception"]).filter goodWord)
def wsX0_leastUnused : List Cond := .code yX0_leastUnused cX0_leastUnused 2 (some .int) :: ([.fieldLink RX0 13 "HandleHeap" "begin" "[I"] ++ wsX00 ++ (vx_atM "java/lang/ArrayIndexOutOfBoundsException" ["java/lang/IndexOutOfBoundsException", "java/lang/RuntimeException", "java/lang/Exception"]).filter goodWord)
def wsX0_endOf : List Cond := .code yX0_endOf cX0_endOf 2 (some .int) :: ([.fieldLink RX0 13 "HandleHeap" "begin" "[I", .fieldLink RX0 22 "HandleHeap" "length" "[I"] ++ wsX00 ++ (vx_atM "java/lang/ArrayIndexOutOfBoundsException" ["java/lang/IndexOutOfBoundsException", "java/lang/RuntimeException", "java/lang/Exception"]).filter goodWord)
def wsX0_gapBegin : List Cond := .code yX0_gapBegin cX0_gapBegin 2 (some .int) :: ([.fieldLink RX0 35 "HandleHeap" "row" "[I", .methodLink RX0 120 yX0_endOf, .instanceMethod yX0_endOf, .selects RX0 yX0_endOf yX0_endOf, .initialized RX0, .code yX0_endOf cX0_endOf 2 (some .int), .fieldLink RX0 13 "HandleHeap" "begin" "[I", .fieldLink RX0 22 "HandleHeap" "length" "[I"] ++ wsX00 ++ (vx_atM "java/lang/ArrayIndexOutOfBoundsException" ["java/lang/IndexOutOfBoundsException", "java/lang/RuntimeException", "java/lang/Exception"]).filter goodWord)
def wsX0_gapLength : List Cond := .code yX0_gapLength cX0_gapLength 3 (some .int) :: ([.fieldLink RX0 38 "HandleHeap" "blocks" "I", .fieldLink RX0 13 "HandleHeap" "begin" "[I", .fieldLink RX0 35 "HandleHeap" "row" "[I", .methodLink RX0 147 yX0_gapBegin, .instanceMethod yX0_gapBegin, .selects RX0 yX0_gapBegin yX0_gapBegin, .initialized RX0, .code yX0_gapBegin cX0_gapBegin 2 (some .int), .methodLink RX0 120 yX0_endOf, .instanceMethod yX0_endOf, .selects RX0 yX0_endOf yX0_endOf, .code yX0_endOf cX0_endOf 2 (some .int), .fieldLink RX0 22 "HandleHeap" "length" "[I"] ++ wsX00 ++ (vx_atM "java/lang/ArrayIndexOutOfBoundsException" ["java/lang/IndexOutOfBoundsException", "java/lang/RuntimeException", "java/lang/Exception"]).filter goodWord)
def wsX0_firstGapOf : List Cond := .code yX0_firstGapOf cX0_firstGapOf 3 (some .int) :: ([.fieldLink RX0 38 "HandleHeap" "blocks" "I", .methodLink RX0 150 yX0_gapLength, .instanceMethod yX0_gapLength, .selects RX0 yX0_gapLength yX0_gapLength, .initialized RX0, .code yX0_gapLength cX0_gapLength 3 (some .int), .fieldLink RX0 13 "HandleHeap" "begin" "[I", .fieldLink RX0 35 "HandleHeap" "row" "[I", .methodLink RX0 147 yX0_gapBegin, .instanceMethod yX0_gapBegin, .selects RX0 yX0_gapBegin yX0_gapBegin, .code yX0_gapBegin cX0_gapBegin 2 (some .int), .methodLink RX0 120 yX0_endOf, .instanceMethod yX0_endOf, .selects RX0 yX0_endOf yX0_endOf, .code yX0_endOf cX0_endOf 2 (some .int), .fieldLink RX0 22 "HandleHeap" "length" "[I"] ++ wsX00 ++ (vx_atM "java/lang/ArrayIndexOutOfBoundsException" ["java/lang/IndexOutOfBoundsException", "java/lang/RuntimeException", "java/lang/Exception"]).filter goodWord)
def wsX0_isMovable : List Cond := .code yX0_isMovable cX0_isMovable 2 (some .boolean) :: ([.fieldLink RX0 25 "HandleHeap" "isFixed" "[Z", .fieldLink RX0 29 "HandleHeap" "isLocked" "[Z"] ++ wsX00 ++ (vx_atM "java/lang/ArrayIndexOutOfBoundsException" ["java/lang/IndexOutOfBoundsException", "java/lang/RuntimeException", "java/lang/Exception"]).filter goodWord)
def wsX0_moveTo : List Cond := .code yX0_moveTo cX0_moveTo 3 none :: ([.fieldLink RX0 13 "HandleHeap" "begin" "[I", .fieldLink RX0 9 "HandleHeap" "heap" "[I", .fieldLink RX0 22 "HandleHeap" "length" "[I", .methodLink RX0 171 arraycopyName, .native arraycopyName, .static arraycopyName, .initialized "java/lang/System", .fieldLink RX0 42 "HandleHeap" "bytesMoved" "I"] ++ wsX00 ++ (vx_atM "java/lang/ArrayIndexOutOfBoundsException" ["java/lang/IndexOutOfBoundsException", "java/lang/RuntimeException", "java/lang/Exception"]).filter goodWord)
def wsX0_slideTogether_r1 : List Cond := [Cond.fieldLink RX0 38 "HandleHeap" "blocks" "I", Cond.fieldLink RX0 35 "HandleHeap" "row" "[I", Cond.methodLink RX0 74 yX0_isMovable, Cond.instanceMethod yX0_isMovable, Cond.selects RX0 yX0_isMovable yX0_isMovable, Cond.initialized RX0, Cond.code yX0_isMovable cX0_isMovable 2 (some .boolean), Cond.fieldLink RX0 25 "HandleHeap" "isFixed" "[Z", Cond.fieldLink RX0 29 "HandleHeap" "isLocked" "[Z", Cond.methodLink RX0 95 yX0_moveTo, Cond.instanceMethod yX0_moveTo, Cond.selects RX0 yX0_moveTo yX0_moveTo, Cond.code yX0_moveTo cX0_moveTo 3 none, Cond.fieldLink RX0 13 "HandleHeap" "begin" "[I", Cond.fieldLink RX0 9 "HandleHeap" "heap" "[I", Cond.fieldLink RX0 22 "HandleHeap" "length" "[I", Cond.methodLink RX0 171 arraycopyName, Cond.native arraycopyName, Cond.static arraycopyName, Cond.initialized "java/lang/System", Cond.fieldLink RX0 42 "HandleHeap" "bytesMoved" "I", Cond.methodLink RX0 120 yX0_endOf, Cond.instanceMethod yX0_endOf, Cond.selects RX0 yX0_endOf yX0_endOf]
def wsX0_slideTogether_r2 : List Cond := [Cond.code yX0_endOf cX0_endOf 2 (some .int)]
def wsX0_slideTogether : List Cond := .code yX0_slideTogether cX0_slideTogether 4 none :: ((wsX0_slideTogether_r1 ++ wsX0_slideTogether_r2) ++ wsX00 ++ (vx_atM "java/lang/ArrayIndexOutOfBoundsException" ["java/lang/IndexOutOfBoundsException", "java/lang/RuntimeException", "java/lang/Exception"]).filter goodWord)
def wsX0_leaveRow : List Cond := .code yX0_leaveRow cX0_leaveRow 4 none :: ([.fieldLink RX0 38 "HandleHeap" "blocks" "I", .fieldLink RX0 35 "HandleHeap" "row" "[I"] ++ wsX00 ++ (vx_atM "java/lang/ArrayIndexOutOfBoundsException" ["java/lang/IndexOutOfBoundsException", "java/lang/RuntimeException", "java/lang/Exception"]).filter goodWord)
def wsX0_takeBlock : List Cond := .code yX0_takeBlock cX0_takeBlock 3 none :: ([.fieldLink RX0 13 "HandleHeap" "begin" "[I", .fieldLink RX0 22 "HandleHeap" "length" "[I", .methodLink RX0 165 yX0_leaveRow, .instanceMethod yX0_leaveRow, .selects RX0 yX0_leaveRow yX0_leaveRow, .initialized RX0, .code yX0_leaveRow cX0_leaveRow 4 none, .fieldLink RX0 38 "HandleHeap" "blocks" "I", .fieldLink RX0 35 "HandleHeap" "row" "[I"] ++ wsX00 ++ (vx_atM "java/lang/ArrayIndexOutOfBoundsException" ["java/lang/IndexOutOfBoundsException", "java/lang/RuntimeException", "java/lang/Exception"]).filter goodWord)
def wsX0_giveUp : List Cond := .code yX0_giveUp cX0_giveUp 2 none :: ([.fieldLink RX0 45 "HandleHeap" "blocksLost" "I", .methodLink RX0 63 yX0_takeBlock, .instanceMethod yX0_takeBlock, .selects RX0 yX0_takeBlock yX0_takeBlock, .initialized RX0, .code yX0_takeBlock cX0_takeBlock 3 none, .fieldLink RX0 13 "HandleHeap" "begin" "[I", .fieldLink RX0 22 "HandleHeap" "length" "[I", .methodLink RX0 165 yX0_leaveRow, .instanceMethod yX0_leaveRow, .selects RX0 yX0_leaveRow yX0_leaveRow, .code yX0_leaveRow cX0_leaveRow 4 none, .fieldLink RX0 38 "HandleHeap" "blocks" "I", .fieldLink RX0 35 "HandleHeap" "row" "[I"] ++ wsX00 ++ (vx_atM "java/lang/ArrayIndexOutOfBoundsException" ["java/lang/IndexOutOfBoundsException", "java/lang/RuntimeException", "java/lang/Exception"]).filter goodWord)
def wsX0_giveUpFirst_r1 : List Cond := [Cond.fieldLink RX0 38 "HandleHeap" "blocks" "I", Cond.fieldLink RX0 35 "HandleHeap" "row" "[I", Cond.fieldLink RX0 32 "HandleHeap" "isLosable" "[Z", Cond.methodLink RX0 74 yX0_isMovable, Cond.instanceMethod yX0_isMovable, Cond.selects RX0 yX0_isMovable yX0_isMovable, Cond.initialized RX0, Cond.code yX0_isMovable cX0_isMovable 2 (some .boolean), Cond.fieldLink RX0 25 "HandleHeap" "isFixed" "[Z", Cond.fieldLink RX0 29 "HandleHeap" "isLocked" "[Z", Cond.methodLink RX0 85 yX0_giveUp, Cond.instanceMethod yX0_giveUp, Cond.selects RX0 yX0_giveUp yX0_giveUp, Cond.code yX0_giveUp cX0_giveUp 2 none, Cond.fieldLink RX0 45 "HandleHeap" "blocksLost" "I", Cond.methodLink RX0 63 yX0_takeBlock, Cond.instanceMethod yX0_takeBlock, Cond.selects RX0 yX0_takeBlock yX0_takeBlock, Cond.code yX0_takeBlock cX0_takeBlock 3 none, Cond.fieldLink RX0 13 "HandleHeap" "begin" "[I", Cond.fieldLink RX0 22 "HandleHeap" "length" "[I", Cond.methodLink RX0 165 yX0_leaveRow, Cond.instanceMethod yX0_leaveRow, Cond.selects RX0 yX0_leaveRow yX0_leaveRow]
def wsX0_giveUpFirst_r2 : List Cond := [Cond.code yX0_leaveRow cX0_leaveRow 4 none]
def wsX0_giveUpFirst : List Cond := .code yX0_giveUpFirst cX0_giveUpFirst 4 (some .boolean) :: ((wsX0_giveUpFirst_r1 ++ wsX0_giveUpFirst_r2) ++ wsX00 ++ (vx_atM "java/lang/ArrayIndexOutOfBoundsException" ["java/lang/IndexOutOfBoundsException", "java/lang/RuntimeException", "java/lang/Exception"]).filter goodWord)
def wsX0_findRoom_r1 : List Cond := [Cond.methodLink RX0 177 yX0_firstGapOf, Cond.instanceMethod yX0_firstGapOf, Cond.selects RX0 yX0_firstGapOf yX0_firstGapOf, Cond.initialized RX0, Cond.code yX0_firstGapOf cX0_firstGapOf 3 (some .int), Cond.fieldLink RX0 38 "HandleHeap" "blocks" "I", Cond.methodLink RX0 150 yX0_gapLength, Cond.instanceMethod yX0_gapLength, Cond.selects RX0 yX0_gapLength yX0_gapLength, Cond.code yX0_gapLength cX0_gapLength 3 (some .int), Cond.fieldLink RX0 13 "HandleHeap" "begin" "[I", Cond.fieldLink RX0 35 "HandleHeap" "row" "[I", Cond.methodLink RX0 147 yX0_gapBegin, Cond.instanceMethod yX0_gapBegin, Cond.selects RX0 yX0_gapBegin yX0_gapBegin, Cond.code yX0_gapBegin cX0_gapBegin 2 (some .int), Cond.methodLink RX0 120 yX0_endOf, Cond.instanceMethod yX0_endOf, Cond.selects RX0 yX0_endOf yX0_endOf, Cond.code yX0_endOf cX0_endOf 2 (some .int), Cond.fieldLink RX0 22 "HandleHeap" "length" "[I", Cond.methodLink RX0 98 yX0_slideTogether, Cond.instanceMethod yX0_slideTogether, Cond.selects RX0 yX0_slideTogether yX0_slideTogether]
def wsX0_findRoom_r2 : List Cond := [Cond.code yX0_slideTogether cX0_slideTogether 4 none, Cond.methodLink RX0 74 yX0_isMovable, Cond.instanceMethod yX0_isMovable, Cond.selects RX0 yX0_isMovable yX0_isMovable, Cond.code yX0_isMovable cX0_isMovable 2 (some .boolean), Cond.fieldLink RX0 25 "HandleHeap" "isFixed" "[Z", Cond.fieldLink RX0 29 "HandleHeap" "isLocked" "[Z", Cond.methodLink RX0 95 yX0_moveTo, Cond.instanceMethod yX0_moveTo, Cond.selects RX0 yX0_moveTo yX0_moveTo, Cond.code yX0_moveTo cX0_moveTo 3 none, Cond.fieldLink RX0 9 "HandleHeap" "heap" "[I", Cond.methodLink RX0 171 arraycopyName, Cond.native arraycopyName, Cond.static arraycopyName, Cond.initialized "java/lang/System", Cond.fieldLink RX0 42 "HandleHeap" "bytesMoved" "I", Cond.methodLink RX0 109 yX0_giveUpFirst, Cond.instanceMethod yX0_giveUpFirst, Cond.selects RX0 yX0_giveUpFirst yX0_giveUpFirst, Cond.code yX0_giveUpFirst cX0_giveUpFirst 4 (some .boolean), Cond.fieldLink RX0 32 "HandleHeap" "isLosable" "[Z", Cond.methodLink RX0 85 yX0_giveUp, Cond.instanceMethod yX0_giveUp]
def wsX0_findRoom_r3 : List Cond := [Cond.selects RX0 yX0_giveUp yX0_giveUp, Cond.code yX0_giveUp cX0_giveUp 2 none, Cond.fieldLink RX0 45 "HandleHeap" "blocksLost" "I", Cond.methodLink RX0 63 yX0_takeBlock, Cond.instanceMethod yX0_takeBlock, Cond.selects RX0 yX0_takeBlock yX0_takeBlock, Cond.code yX0_takeBlock cX0_takeBlock 3 none, Cond.methodLink RX0 165 yX0_leaveRow, Cond.instanceMethod yX0_leaveRow, Cond.selects RX0 yX0_leaveRow yX0_leaveRow, Cond.code yX0_leaveRow cX0_leaveRow 4 none]
def wsX0_findRoom : List Cond := .code yX0_findRoom cX0_findRoom 5 (some .int) :: ((wsX0_findRoom_r1 ++ (wsX0_findRoom_r2 ++ wsX0_findRoom_r3)) ++ wsX00 ++ (vx_atM "java/lang/ArrayIndexOutOfBoundsException" ["java/lang/IndexOutOfBoundsException", "java/lang/RuntimeException", "java/lang/Exception"]).filter goodWord)
def wsJ7_rangeCheck_23922 : List Cond := .code yJ7_rangeCheck_23922 cJ7_rangeCheck_23922 3 none :: ([.classLink RJ7 45 RJ4, .instantiable RJ4 4, .initialized RJ4, .classLink RJ7 68 RJx00060, .instantiable RJx00060 6, .initialized RJx00060] ++ wsJ40 ++ wsJx000600)
def wsJ7_fill_fda19 : List Cond := .code yJ7_fill_fda19 cJ7_fill_fda19 5 none :: ([.methodLink RJ7 13 yJ7_rangeCheck_23922, .static yJ7_rangeCheck_23922, .initialized RJ7, .code yJ7_rangeCheck_23922 cJ7_rangeCheck_23922 3 none, .classLink RJ7 45 RJ4, .instantiable RJ4 4, .initialized RJ4, .classLink RJ7 68 RJx00060, .instantiable RJx00060 6, .initialized RJx00060] ++ wsJ40 ++ wsJx000600)
def wsX0_setLength : List Cond := .code yX0_setLength cX0_setLength 3 none :: ([.fieldLink RX0 22 "HandleHeap" "length" "[I", .fieldLink RX0 9 "HandleHeap" "heap" "[I", .fieldLink RX0 13 "HandleHeap" "begin" "[I", .methodLink RX0 120 yX0_endOf, .instanceMethod yX0_endOf, .selects RX0 yX0_endOf yX0_endOf, .initialized RX0, .code yX0_endOf cX0_endOf 2 (some .int), .methodLink RX0 168 yJ7_fill_fda19, .static yJ7_fill_fda19, .initialized RJ7, .code yJ7_fill_fda19 cJ7_fill_fda19 5 none, .methodLink RJ7 13 yJ7_rangeCheck_23922, .static yJ7_rangeCheck_23922, .code yJ7_rangeCheck_23922 cJ7_rangeCheck_23922 3 none, .classLink RJ7 45 RJ4, .instantiable RJ4 4, .initialized RJ4, .classLink RJ7 68 RJx00060, .instantiable RJx00060 6, .initialized RJx00060] ++ wsX00 ++ wsJ40 ++ wsJx000600 ++ (vx_atM "java/lang/ArrayIndexOutOfBoundsException" ["java/lang/IndexOutOfBoundsException", "java/lang/RuntimeException", "java/lang/Exception"]).filter goodWord)
def wsX0_enterRow : List Cond := .code yX0_enterRow cX0_enterRow 3 none :: ([.fieldLink RX0 38 "HandleHeap" "blocks" "I", .fieldLink RX0 13 "HandleHeap" "begin" "[I", .fieldLink RX0 35 "HandleHeap" "row" "[I"] ++ wsX00 ++ (vx_atM "java/lang/ArrayIndexOutOfBoundsException" ["java/lang/IndexOutOfBoundsException", "java/lang/RuntimeException", "java/lang/Exception"]).filter goodWord)
def wsX0_makeBlock_r1 : List Cond := [Cond.fieldLink RX0 13 "HandleHeap" "begin" "[I", Cond.fieldLink RX0 25 "HandleHeap" "isFixed" "[Z", Cond.fieldLink RX0 29 "HandleHeap" "isLocked" "[Z", Cond.fieldLink RX0 32 "HandleHeap" "isLosable" "[Z", Cond.methodLink RX0 159 yX0_findRoom, Cond.instanceMethod yX0_findRoom, Cond.selects RX0 yX0_findRoom yX0_findRoom, Cond.initialized RX0, Cond.code yX0_findRoom cX0_findRoom 5 (some .int), Cond.methodLink RX0 177 yX0_firstGapOf, Cond.instanceMethod yX0_firstGapOf, Cond.selects RX0 yX0_firstGapOf yX0_firstGapOf, Cond.code yX0_firstGapOf cX0_firstGapOf 3 (some .int), Cond.fieldLink RX0 38 "HandleHeap" "blocks" "I", Cond.methodLink RX0 150 yX0_gapLength, Cond.instanceMethod yX0_gapLength, Cond.selects RX0 yX0_gapLength yX0_gapLength, Cond.code yX0_gapLength cX0_gapLength 3 (some .int), Cond.fieldLink RX0 35 "HandleHeap" "row" "[I", Cond.methodLink RX0 147 yX0_gapBegin, Cond.instanceMethod yX0_gapBegin, Cond.selects RX0 yX0_gapBegin yX0_gapBegin, Cond.code yX0_gapBegin cX0_gapBegin 2 (some .int), Cond.methodLink RX0 120 yX0_endOf]
def wsX0_makeBlock_r2 : List Cond := [Cond.instanceMethod yX0_endOf, Cond.selects RX0 yX0_endOf yX0_endOf, Cond.code yX0_endOf cX0_endOf 2 (some .int), Cond.fieldLink RX0 22 "HandleHeap" "length" "[I", Cond.methodLink RX0 98 yX0_slideTogether, Cond.instanceMethod yX0_slideTogether, Cond.selects RX0 yX0_slideTogether yX0_slideTogether, Cond.code yX0_slideTogether cX0_slideTogether 4 none, Cond.methodLink RX0 74 yX0_isMovable, Cond.instanceMethod yX0_isMovable, Cond.selects RX0 yX0_isMovable yX0_isMovable, Cond.code yX0_isMovable cX0_isMovable 2 (some .boolean), Cond.methodLink RX0 95 yX0_moveTo, Cond.instanceMethod yX0_moveTo, Cond.selects RX0 yX0_moveTo yX0_moveTo, Cond.code yX0_moveTo cX0_moveTo 3 none, Cond.fieldLink RX0 9 "HandleHeap" "heap" "[I", Cond.methodLink RX0 171 arraycopyName, Cond.native arraycopyName, Cond.static arraycopyName, Cond.initialized "java/lang/System", Cond.fieldLink RX0 42 "HandleHeap" "bytesMoved" "I", Cond.methodLink RX0 109 yX0_giveUpFirst, Cond.instanceMethod yX0_giveUpFirst]
def wsX0_makeBlock_r3 : List Cond := [Cond.selects RX0 yX0_giveUpFirst yX0_giveUpFirst, Cond.code yX0_giveUpFirst cX0_giveUpFirst 4 (some .boolean), Cond.methodLink RX0 85 yX0_giveUp, Cond.instanceMethod yX0_giveUp, Cond.selects RX0 yX0_giveUp yX0_giveUp, Cond.code yX0_giveUp cX0_giveUp 2 none, Cond.fieldLink RX0 45 "HandleHeap" "blocksLost" "I", Cond.methodLink RX0 63 yX0_takeBlock, Cond.instanceMethod yX0_takeBlock, Cond.selects RX0 yX0_takeBlock yX0_takeBlock, Cond.code yX0_takeBlock cX0_takeBlock 3 none, Cond.methodLink RX0 165 yX0_leaveRow, Cond.instanceMethod yX0_leaveRow, Cond.selects RX0 yX0_leaveRow yX0_leaveRow, Cond.code yX0_leaveRow cX0_leaveRow 4 none, Cond.methodLink RX0 71 yX0_setLength, Cond.instanceMethod yX0_setLength, Cond.selects RX0 yX0_setLength yX0_setLength, Cond.code yX0_setLength cX0_setLength 3 none, Cond.methodLink RX0 168 yJ7_fill_fda19, Cond.static yJ7_fill_fda19, Cond.initialized RJ7, Cond.code yJ7_fill_fda19 cJ7_fill_fda19 5 none, Cond.methodLink RJ7 13 yJ7_rangeCheck_23922]
def wsX0_makeBlock_r4 : List Cond := [Cond.static yJ7_rangeCheck_23922, Cond.code yJ7_rangeCheck_23922 cJ7_rangeCheck_23922 3 none, Cond.classLink RJ7 45 RJ4, Cond.instantiable RJ4 4, Cond.initialized RJ4, Cond.classLink RJ7 68 RJx00060, Cond.instantiable RJx00060 6, Cond.initialized RJx00060, Cond.methodLink RX0 162 yX0_enterRow, Cond.instanceMethod yX0_enterRow, Cond.selects RX0 yX0_enterRow yX0_enterRow, Cond.code yX0_enterRow cX0_enterRow 3 none]
def wsX0_makeBlock : List Cond := .code yX0_makeBlock cX0_makeBlock 5 (some .boolean) :: ((wsX0_makeBlock_r1 ++ (wsX0_makeBlock_r2 ++ (wsX0_makeBlock_r3 ++ wsX0_makeBlock_r4))) ++ wsX00 ++ wsJ40 ++ wsJx000600 ++ (vx_atM "java/lang/ArrayIndexOutOfBoundsException" ["java/lang/IndexOutOfBoundsException", "java/lang/RuntimeException", "java/lang/Exception"]).filter goodWord)
def wsX0_ask_r1 : List Cond := [Cond.methodLink RX0 48 yX0_checkBlockLength, Cond.static yX0_checkBlockLength, Cond.initialized RX0, Cond.code yX0_checkBlockLength cX0_checkBlockLength 1 none, Cond.classLink RX0 104 "java/lang/IllegalArgumentException", Cond.initialized "java/lang/IllegalArgumentException", Cond.methodLink RX0 52 yX0_leastUnused, Cond.instanceMethod yX0_leastUnused, Cond.selects RX0 yX0_leastUnused yX0_leastUnused, Cond.code yX0_leastUnused cX0_leastUnused 2 (some .int), Cond.fieldLink RX0 13 "HandleHeap" "begin" "[I", Cond.methodLink RX0 56 yX0_makeBlock, Cond.instanceMethod yX0_makeBlock, Cond.selects RX0 yX0_makeBlock yX0_makeBlock, Cond.code yX0_makeBlock cX0_makeBlock 5 (some .boolean), Cond.fieldLink RX0 25 "HandleHeap" "isFixed" "[Z", Cond.fieldLink RX0 29 "HandleHeap" "isLocked" "[Z", Cond.fieldLink RX0 32 "HandleHeap" "isLosable" "[Z", Cond.methodLink RX0 159 yX0_findRoom, Cond.instanceMethod yX0_findRoom, Cond.selects RX0 yX0_findRoom yX0_findRoom, Cond.code yX0_findRoom cX0_findRoom 5 (some .int), Cond.methodLink RX0 177 yX0_firstGapOf, Cond.instanceMethod yX0_firstGapOf]
def wsX0_ask_r2 : List Cond := [Cond.selects RX0 yX0_firstGapOf yX0_firstGapOf, Cond.code yX0_firstGapOf cX0_firstGapOf 3 (some .int), Cond.fieldLink RX0 38 "HandleHeap" "blocks" "I", Cond.methodLink RX0 150 yX0_gapLength, Cond.instanceMethod yX0_gapLength, Cond.selects RX0 yX0_gapLength yX0_gapLength, Cond.code yX0_gapLength cX0_gapLength 3 (some .int), Cond.fieldLink RX0 35 "HandleHeap" "row" "[I", Cond.methodLink RX0 147 yX0_gapBegin, Cond.instanceMethod yX0_gapBegin, Cond.selects RX0 yX0_gapBegin yX0_gapBegin, Cond.code yX0_gapBegin cX0_gapBegin 2 (some .int), Cond.methodLink RX0 120 yX0_endOf, Cond.instanceMethod yX0_endOf, Cond.selects RX0 yX0_endOf yX0_endOf, Cond.code yX0_endOf cX0_endOf 2 (some .int), Cond.fieldLink RX0 22 "HandleHeap" "length" "[I", Cond.methodLink RX0 98 yX0_slideTogether, Cond.instanceMethod yX0_slideTogether, Cond.selects RX0 yX0_slideTogether yX0_slideTogether, Cond.code yX0_slideTogether cX0_slideTogether 4 none, Cond.methodLink RX0 74 yX0_isMovable, Cond.instanceMethod yX0_isMovable, Cond.selects RX0 yX0_isMovable yX0_isMovable]
def wsX0_ask_r3 : List Cond := [Cond.code yX0_isMovable cX0_isMovable 2 (some .boolean), Cond.methodLink RX0 95 yX0_moveTo, Cond.instanceMethod yX0_moveTo, Cond.selects RX0 yX0_moveTo yX0_moveTo, Cond.code yX0_moveTo cX0_moveTo 3 none, Cond.fieldLink RX0 9 "HandleHeap" "heap" "[I", Cond.methodLink RX0 171 arraycopyName, Cond.native arraycopyName, Cond.static arraycopyName, Cond.initialized "java/lang/System", Cond.fieldLink RX0 42 "HandleHeap" "bytesMoved" "I", Cond.methodLink RX0 109 yX0_giveUpFirst, Cond.instanceMethod yX0_giveUpFirst, Cond.selects RX0 yX0_giveUpFirst yX0_giveUpFirst, Cond.code yX0_giveUpFirst cX0_giveUpFirst 4 (some .boolean), Cond.methodLink RX0 85 yX0_giveUp, Cond.instanceMethod yX0_giveUp, Cond.selects RX0 yX0_giveUp yX0_giveUp, Cond.code yX0_giveUp cX0_giveUp 2 none, Cond.fieldLink RX0 45 "HandleHeap" "blocksLost" "I", Cond.methodLink RX0 63 yX0_takeBlock, Cond.instanceMethod yX0_takeBlock, Cond.selects RX0 yX0_takeBlock yX0_takeBlock, Cond.code yX0_takeBlock cX0_takeBlock 3 none]
def wsX0_ask_r4 : List Cond := [Cond.methodLink RX0 165 yX0_leaveRow, Cond.instanceMethod yX0_leaveRow, Cond.selects RX0 yX0_leaveRow yX0_leaveRow, Cond.code yX0_leaveRow cX0_leaveRow 4 none, Cond.methodLink RX0 71 yX0_setLength, Cond.instanceMethod yX0_setLength, Cond.selects RX0 yX0_setLength yX0_setLength, Cond.code yX0_setLength cX0_setLength 3 none, Cond.methodLink RX0 168 yJ7_fill_fda19, Cond.static yJ7_fill_fda19, Cond.initialized RJ7, Cond.code yJ7_fill_fda19 cJ7_fill_fda19 5 none, Cond.methodLink RJ7 13 yJ7_rangeCheck_23922, Cond.static yJ7_rangeCheck_23922, Cond.code yJ7_rangeCheck_23922 cJ7_rangeCheck_23922 3 none, Cond.classLink RJ7 45 RJ4, Cond.instantiable RJ4 4, Cond.initialized RJ4, Cond.classLink RJ7 68 RJx00060, Cond.instantiable RJx00060 6, Cond.initialized RJx00060, Cond.methodLink RX0 162 yX0_enterRow, Cond.instanceMethod yX0_enterRow, Cond.selects RX0 yX0_enterRow yX0_enterRow]
def wsX0_ask_r5 : List Cond := [Cond.code yX0_enterRow cX0_enterRow 3 none]
def wsX0_ask : List Cond := .code yX0_ask cX0_ask 4 (some .int) :: ((wsX0_ask_r1 ++ (wsX0_ask_r2 ++ (wsX0_ask_r3 ++ (wsX0_ask_r4 ++ wsX0_ask_r5)))) ++ wsX00 ++ wsJ40 ++ wsJx000600 ++ (vx_atS RX0 108 "java/lang/IllegalArgumentException" ["java/lang/RuntimeException", "java/lang/Exception"]).filter goodWord ++ (vx_atM "java/lang/ArrayIndexOutOfBoundsException" ["java/lang/IndexOutOfBoundsException", "java/lang/RuntimeException", "java/lang/Exception"]).filter goodWord)
def wsX0_checkHandle : List Cond := .code yX0_checkHandle cX0_checkHandle 1 none :: ([.classLink RX0 104 "java/lang/IllegalArgumentException", .initialized "java/lang/IllegalArgumentException"] ++ (vx_atS RX0 108 "java/lang/IllegalArgumentException" ["java/lang/RuntimeException", "java/lang/Exception"]).filter goodWord)
def wsX0_checkInUse : List Cond := .code yX0_checkInUse cX0_checkInUse 2 none :: ([.classLink RX0 104 "java/lang/IllegalArgumentException", .initialized "java/lang/IllegalArgumentException", .fieldLink RX0 13 "HandleHeap" "begin" "[I", .methodLink RX0 112 yX0_checkHandle, .static yX0_checkHandle, .initialized RX0, .code yX0_checkHandle cX0_checkHandle 1 none] ++ wsX00 ++ (vx_atM "java/lang/ArrayIndexOutOfBoundsException" ["java/lang/IndexOutOfBoundsException", "java/lang/RuntimeException", "java/lang/Exception"]).filter goodWord ++ (vx_atS RX0 108 "java/lang/IllegalArgumentException" ["java/lang/RuntimeException", "java/lang/Exception"]).filter goodWord)
def wsX0_drop : List Cond := .code yX0_drop cX0_drop 3 (some .int) :: ([.fieldLink RX0 22 "HandleHeap" "length" "[I", .methodLink RX0 60 yX0_checkInUse, .instanceMethod yX0_checkInUse, .selects RX0 yX0_checkInUse yX0_checkInUse, .initialized RX0, .code yX0_checkInUse cX0_checkInUse 2 none, .classLink RX0 104 "java/lang/IllegalArgumentException", .initialized "java/lang/IllegalArgumentException", .fieldLink RX0 13 "HandleHeap" "begin" "[I", .methodLink RX0 112 yX0_checkHandle, .static yX0_checkHandle, .code yX0_checkHandle cX0_checkHandle 1 none, .methodLink RX0 63 yX0_takeBlock, .instanceMethod yX0_takeBlock, .selects RX0 yX0_takeBlock yX0_takeBlock, .code yX0_takeBlock cX0_takeBlock 3 none, .methodLink RX0 165 yX0_leaveRow, .instanceMethod yX0_leaveRow, .selects RX0 yX0_leaveRow yX0_leaveRow, .code yX0_leaveRow cX0_leaveRow 4 none, .fieldLink RX0 38 "HandleHeap" "blocks" "I", .fieldLink RX0 35 "HandleHeap" "row" "[I"] ++ wsX00 ++ (vx_atM "java/lang/ArrayIndexOutOfBoundsException" ["java/lang/IndexOutOfBoundsException", "java/lang/RuntimeException", "java/lang/Exception"]).filter goodWord ++ (vx_atS RX0 108 "java/lang/IllegalArgumentException" ["java/lang/RuntimeException", "java/lang/Exception"]).filter goodWord)
def wsX0_freeBehind : List Cond := .code yX0_freeBehind cX0_freeBehind 3 (some .int) :: ([.fieldLink RX0 38 "HandleHeap" "blocks" "I", .fieldLink RX0 35 "HandleHeap" "row" "[I", .methodLink RX0 150 yX0_gapLength, .instanceMethod yX0_gapLength, .selects RX0 yX0_gapLength yX0_gapLength, .initialized RX0, .code yX0_gapLength cX0_gapLength 3 (some .int), .fieldLink RX0 13 "HandleHeap" "begin" "[I", .methodLink RX0 147 yX0_gapBegin, .instanceMethod yX0_gapBegin, .selects RX0 yX0_gapBegin yX0_gapBegin, .code yX0_gapBegin cX0_gapBegin 2 (some .int), .methodLink RX0 120 yX0_endOf, .instanceMethod yX0_endOf, .selects RX0 yX0_endOf yX0_endOf, .code yX0_endOf cX0_endOf 2 (some .int), .fieldLink RX0 22 "HandleHeap" "length" "[I"] ++ wsX00 ++ (vx_atM "java/lang/ArrayIndexOutOfBoundsException" ["java/lang/IndexOutOfBoundsException", "java/lang/RuntimeException", "java/lang/Exception"]).filter goodWord)
def wsX0_growElsewhere_r1 : List Cond := [Cond.methodLink RX0 159 yX0_findRoom, Cond.instanceMethod yX0_findRoom, Cond.selects RX0 yX0_findRoom yX0_findRoom, Cond.initialized RX0, Cond.code yX0_findRoom cX0_findRoom 5 (some .int), Cond.methodLink RX0 177 yX0_firstGapOf, Cond.instanceMethod yX0_firstGapOf, Cond.selects RX0 yX0_firstGapOf yX0_firstGapOf, Cond.code yX0_firstGapOf cX0_firstGapOf 3 (some .int), Cond.fieldLink RX0 38 "HandleHeap" "blocks" "I", Cond.methodLink RX0 150 yX0_gapLength, Cond.instanceMethod yX0_gapLength, Cond.selects RX0 yX0_gapLength yX0_gapLength, Cond.code yX0_gapLength cX0_gapLength 3 (some .int), Cond.fieldLink RX0 13 "HandleHeap" "begin" "[I", Cond.fieldLink RX0 35 "HandleHeap" "row" "[I", Cond.methodLink RX0 147 yX0_gapBegin, Cond.instanceMethod yX0_gapBegin, Cond.selects RX0 yX0_gapBegin yX0_gapBegin, Cond.code yX0_gapBegin cX0_gapBegin 2 (some .int), Cond.methodLink RX0 120 yX0_endOf, Cond.instanceMethod yX0_endOf, Cond.selects RX0 yX0_endOf yX0_endOf, Cond.code yX0_endOf cX0_endOf 2 (some .int)]
def wsX0_growElsewhere_r2 : List Cond := [Cond.fieldLink RX0 22 "HandleHeap" "length" "[I", Cond.methodLink RX0 98 yX0_slideTogether, Cond.instanceMethod yX0_slideTogether, Cond.selects RX0 yX0_slideTogether yX0_slideTogether, Cond.code yX0_slideTogether cX0_slideTogether 4 none, Cond.methodLink RX0 74 yX0_isMovable, Cond.instanceMethod yX0_isMovable, Cond.selects RX0 yX0_isMovable yX0_isMovable, Cond.code yX0_isMovable cX0_isMovable 2 (some .boolean), Cond.fieldLink RX0 25 "HandleHeap" "isFixed" "[Z", Cond.fieldLink RX0 29 "HandleHeap" "isLocked" "[Z", Cond.methodLink RX0 95 yX0_moveTo, Cond.instanceMethod yX0_moveTo, Cond.selects RX0 yX0_moveTo yX0_moveTo, Cond.code yX0_moveTo cX0_moveTo 3 none, Cond.fieldLink RX0 9 "HandleHeap" "heap" "[I", Cond.methodLink RX0 171 arraycopyName, Cond.native arraycopyName, Cond.static arraycopyName, Cond.initialized "java/lang/System", Cond.fieldLink RX0 42 "HandleHeap" "bytesMoved" "I", Cond.methodLink RX0 109 yX0_giveUpFirst, Cond.instanceMethod yX0_giveUpFirst, Cond.selects RX0 yX0_giveUpFirst yX0_giveUpFirst]
def wsX0_growElsewhere_r3 : List Cond := [Cond.code yX0_giveUpFirst cX0_giveUpFirst 4 (some .boolean), Cond.fieldLink RX0 32 "HandleHeap" "isLosable" "[Z", Cond.methodLink RX0 85 yX0_giveUp, Cond.instanceMethod yX0_giveUp, Cond.selects RX0 yX0_giveUp yX0_giveUp, Cond.code yX0_giveUp cX0_giveUp 2 none, Cond.fieldLink RX0 45 "HandleHeap" "blocksLost" "I", Cond.methodLink RX0 63 yX0_takeBlock, Cond.instanceMethod yX0_takeBlock, Cond.selects RX0 yX0_takeBlock yX0_takeBlock, Cond.code yX0_takeBlock cX0_takeBlock 3 none, Cond.methodLink RX0 165 yX0_leaveRow, Cond.instanceMethod yX0_leaveRow, Cond.selects RX0 yX0_leaveRow yX0_leaveRow, Cond.code yX0_leaveRow cX0_leaveRow 4 none, Cond.methodLink RX0 162 yX0_enterRow, Cond.instanceMethod yX0_enterRow, Cond.selects RX0 yX0_enterRow yX0_enterRow, Cond.code yX0_enterRow cX0_enterRow 3 none, Cond.methodLink RX0 71 yX0_setLength, Cond.instanceMethod yX0_setLength, Cond.selects RX0 yX0_setLength yX0_setLength, Cond.code yX0_setLength cX0_setLength 3 none, Cond.methodLink RX0 168 yJ7_fill_fda19]
def wsX0_growElsewhere_r4 : List Cond := [Cond.static yJ7_fill_fda19, Cond.initialized RJ7, Cond.code yJ7_fill_fda19 cJ7_fill_fda19 5 none, Cond.methodLink RJ7 13 yJ7_rangeCheck_23922, Cond.static yJ7_rangeCheck_23922, Cond.code yJ7_rangeCheck_23922 cJ7_rangeCheck_23922 3 none, Cond.classLink RJ7 45 RJ4, Cond.instantiable RJ4 4, Cond.initialized RJ4, Cond.classLink RJ7 68 RJx00060, Cond.instantiable RJx00060 6, Cond.initialized RJx00060]
def wsX0_growElsewhere : List Cond := .code yX0_growElsewhere cX0_growElsewhere 4 (some .boolean) :: ((wsX0_growElsewhere_r1 ++ (wsX0_growElsewhere_r2 ++ (wsX0_growElsewhere_r3 ++ wsX0_growElsewhere_r4))) ++ wsX00 ++ wsJ40 ++ wsJx000600 ++ (vx_atM "java/lang/ArrayIndexOutOfBoundsException" ["java/lang/IndexOutOfBoundsException", "java/lang/RuntimeException", "java/lang/Exception"]).filter goodWord)
def wsX0_resize_r1 : List Cond := [Cond.fieldLink RX0 13 "HandleHeap" "begin" "[I", Cond.fieldLink RX0 22 "HandleHeap" "length" "[I", Cond.methodLink RX0 60 yX0_checkInUse, Cond.instanceMethod yX0_checkInUse, Cond.selects RX0 yX0_checkInUse yX0_checkInUse, Cond.initialized RX0, Cond.code yX0_checkInUse cX0_checkInUse 2 none, Cond.classLink RX0 104 "java/lang/IllegalArgumentException", Cond.initialized "java/lang/IllegalArgumentException", Cond.methodLink RX0 112 yX0_checkHandle, Cond.static yX0_checkHandle, Cond.code yX0_checkHandle cX0_checkHandle 1 none, Cond.methodLink RX0 48 yX0_checkBlockLength, Cond.static yX0_checkBlockLength, Cond.code yX0_checkBlockLength cX0_checkBlockLength 1 none, Cond.methodLink RX0 56 yX0_makeBlock, Cond.instanceMethod yX0_makeBlock, Cond.selects RX0 yX0_makeBlock yX0_makeBlock, Cond.code yX0_makeBlock cX0_makeBlock 5 (some .boolean), Cond.fieldLink RX0 25 "HandleHeap" "isFixed" "[Z", Cond.fieldLink RX0 29 "HandleHeap" "isLocked" "[Z", Cond.fieldLink RX0 32 "HandleHeap" "isLosable" "[Z", Cond.methodLink RX0 159 yX0_findRoom, Cond.instanceMethod yX0_findRoom]
def wsX0_resize_r2 : List Cond := [Cond.selects RX0 yX0_findRoom yX0_findRoom, Cond.code yX0_findRoom cX0_findRoom 5 (some .int), Cond.methodLink RX0 177 yX0_firstGapOf, Cond.instanceMethod yX0_firstGapOf, Cond.selects RX0 yX0_firstGapOf yX0_firstGapOf, Cond.code yX0_firstGapOf cX0_firstGapOf 3 (some .int), Cond.fieldLink RX0 38 "HandleHeap" "blocks" "I", Cond.methodLink RX0 150 yX0_gapLength, Cond.instanceMethod yX0_gapLength, Cond.selects RX0 yX0_gapLength yX0_gapLength, Cond.code yX0_gapLength cX0_gapLength 3 (some .int), Cond.fieldLink RX0 35 "HandleHeap" "row" "[I", Cond.methodLink RX0 147 yX0_gapBegin, Cond.instanceMethod yX0_gapBegin, Cond.selects RX0 yX0_gapBegin yX0_gapBegin, Cond.code yX0_gapBegin cX0_gapBegin 2 (some .int), Cond.methodLink RX0 120 yX0_endOf, Cond.instanceMethod yX0_endOf, Cond.selects RX0 yX0_endOf yX0_endOf, Cond.code yX0_endOf cX0_endOf 2 (some .int), Cond.methodLink RX0 98 yX0_slideTogether, Cond.instanceMethod yX0_slideTogether, Cond.selects RX0 yX0_slideTogether yX0_slideTogether, Cond.code yX0_slideTogether cX0_slideTogether 4 none]
def wsX0_resize_r3 : List Cond := [Cond.methodLink RX0 74 yX0_isMovable, Cond.instanceMethod yX0_isMovable, Cond.selects RX0 yX0_isMovable yX0_isMovable, Cond.code yX0_isMovable cX0_isMovable 2 (some .boolean), Cond.methodLink RX0 95 yX0_moveTo, Cond.instanceMethod yX0_moveTo, Cond.selects RX0 yX0_moveTo yX0_moveTo, Cond.code yX0_moveTo cX0_moveTo 3 none, Cond.fieldLink RX0 9 "HandleHeap" "heap" "[I", Cond.methodLink RX0 171 arraycopyName, Cond.native arraycopyName, Cond.static arraycopyName, Cond.initialized "java/lang/System", Cond.fieldLink RX0 42 "HandleHeap" "bytesMoved" "I", Cond.methodLink RX0 109 yX0_giveUpFirst, Cond.instanceMethod yX0_giveUpFirst, Cond.selects RX0 yX0_giveUpFirst yX0_giveUpFirst, Cond.code yX0_giveUpFirst cX0_giveUpFirst 4 (some .boolean), Cond.methodLink RX0 85 yX0_giveUp, Cond.instanceMethod yX0_giveUp, Cond.selects RX0 yX0_giveUp yX0_giveUp, Cond.code yX0_giveUp cX0_giveUp 2 none, Cond.fieldLink RX0 45 "HandleHeap" "blocksLost" "I", Cond.methodLink RX0 63 yX0_takeBlock]
def wsX0_resize_r4 : List Cond := [Cond.instanceMethod yX0_takeBlock, Cond.selects RX0 yX0_takeBlock yX0_takeBlock, Cond.code yX0_takeBlock cX0_takeBlock 3 none, Cond.methodLink RX0 165 yX0_leaveRow, Cond.instanceMethod yX0_leaveRow, Cond.selects RX0 yX0_leaveRow yX0_leaveRow, Cond.code yX0_leaveRow cX0_leaveRow 4 none, Cond.methodLink RX0 71 yX0_setLength, Cond.instanceMethod yX0_setLength, Cond.selects RX0 yX0_setLength yX0_setLength, Cond.code yX0_setLength cX0_setLength 3 none, Cond.methodLink RX0 168 yJ7_fill_fda19, Cond.static yJ7_fill_fda19, Cond.initialized RJ7, Cond.code yJ7_fill_fda19 cJ7_fill_fda19 5 none, Cond.methodLink RJ7 13 yJ7_rangeCheck_23922, Cond.static yJ7_rangeCheck_23922, Cond.code yJ7_rangeCheck_23922 cJ7_rangeCheck_23922 3 none, Cond.classLink RJ7 45 RJ4, Cond.instantiable RJ4 4, Cond.initialized RJ4, Cond.classLink RJ7 68 RJx00060, Cond.instantiable RJx00060 6, Cond.initialized RJx00060]
def wsX0_resize_r5 : List Cond := [Cond.methodLink RX0 162 yX0_enterRow, Cond.instanceMethod yX0_enterRow, Cond.selects RX0 yX0_enterRow yX0_enterRow, Cond.code yX0_enterRow cX0_enterRow 3 none, Cond.methodLink RX0 67 yX0_freeBehind, Cond.instanceMethod yX0_freeBehind, Cond.selects RX0 yX0_freeBehind yX0_freeBehind, Cond.code yX0_freeBehind cX0_freeBehind 3 (some .int), Cond.methodLink RX0 78 yX0_growElsewhere, Cond.instanceMethod yX0_growElsewhere, Cond.selects RX0 yX0_growElsewhere yX0_growElsewhere, Cond.code yX0_growElsewhere cX0_growElsewhere 4 (some .boolean)]
def wsX0_resize : List Cond := .code yX0_resize cX0_resize 3 (some .boolean) :: ((wsX0_resize_r1 ++ (wsX0_resize_r2 ++ (wsX0_resize_r3 ++ (wsX0_resize_r4 ++ wsX0_resize_r5)))) ++ wsX00 ++ wsJ40 ++ wsJx000600 ++ (vx_atM "java/lang/ArrayIndexOutOfBoundsException" ["java/lang/IndexOutOfBoundsException", "java/lang/RuntimeException", "java/lang/Exception"]).filter goodWord ++ (vx_atS RX0 108 "java/lang/IllegalArgumentException" ["java/lang/RuntimeException", "java/lang/Exception"]).filter goodWord)
def wsX0_checkHasBlock : List Cond := .code yX0_checkHasBlock cX0_checkHasBlock 2 none :: ([.classLink RX0 88 "java/lang/IllegalStateException", .initialized "java/lang/IllegalStateException", .fieldLink RX0 13 "HandleHeap" "begin" "[I", .methodLink RX0 60 yX0_checkInUse, .instanceMethod yX0_checkInUse, .selects RX0 yX0_checkInUse yX0_checkInUse, .initialized RX0, .code yX0_checkInUse cX0_checkInUse 2 none, .classLink RX0 104 "java/lang/IllegalArgumentException", .initialized "java/lang/IllegalArgumentException", .methodLink RX0 112 yX0_checkHandle, .static yX0_checkHandle, .code yX0_checkHandle cX0_checkHandle 1 none] ++ wsX00 ++ (vx_atM "java/lang/ArrayIndexOutOfBoundsException" ["java/lang/IndexOutOfBoundsException", "java/lang/RuntimeException", "java/lang/Exception"]).filter goodWord ++ (vx_atS RX0 92 "java/lang/IllegalStateException" ["java/lang/RuntimeException", "java/lang/Exception"]).filter goodWord ++ (vx_atS RX0 108 "java/lang/IllegalArgumentException" ["java/lang/RuntimeException", "java/lang/Exception"]).filter goodWord)
def wsX0_lock : List Cond := .code yX0_lock cX0_lock 4 (some .boolean) :: ([.fieldLink RX0 29 "HandleHeap" "isLocked" "[Z", .methodLink RX0 82 yX0_checkHasBlock, .instanceMethod yX0_checkHasBlock, .selects RX0 yX0_checkHasBlock yX0_checkHasBlock, .initialized RX0, .code yX0_checkHasBlock cX0_checkHasBlock 2 none, .classLink RX0 88 "java/lang/IllegalStateException", .initialized "java/lang/IllegalStateException", .fieldLink RX0 13 "HandleHeap" "begin" "[I", .methodLink RX0 60 yX0_checkInUse, .instanceMethod yX0_checkInUse, .selects RX0 yX0_checkInUse yX0_checkInUse, .code yX0_checkInUse cX0_checkInUse 2 none, .classLink RX0 104 "java/lang/IllegalArgumentException", .initialized "java/lang/IllegalArgumentException", .methodLink RX0 112 yX0_checkHandle, .static yX0_checkHandle, .code yX0_checkHandle cX0_checkHandle 1 none] ++ wsX00 ++ (vx_atM "java/lang/ArrayIndexOutOfBoundsException" ["java/lang/IndexOutOfBoundsException", "java/lang/RuntimeException", "java/lang/Exception"]).filter goodWord ++ (vx_atS RX0 92 "java/lang/IllegalStateException" ["java/lang/RuntimeException", "java/lang/Exception"]).filter goodWord ++ (vx_atS RX0 108 "java/lang/IllegalArgumentException" ["java/lang/RuntimeException", "java/lang/Exception"]).filter goodWord)
def wsX0_losable : List Cond := .code yX0_losable cX0_losable 4 (some .boolean) :: ([.fieldLink RX0 32 "HandleHeap" "isLosable" "[Z", .methodLink RX0 82 yX0_checkHasBlock, .instanceMethod yX0_checkHasBlock, .selects RX0 yX0_checkHasBlock yX0_checkHasBlock, .initialized RX0, .code yX0_checkHasBlock cX0_checkHasBlock 2 none, .classLink RX0 88 "java/lang/IllegalStateException", .initialized "java/lang/IllegalStateException", .fieldLink RX0 13 "HandleHeap" "begin" "[I", .methodLink RX0 60 yX0_checkInUse, .instanceMethod yX0_checkInUse, .selects RX0 yX0_checkInUse yX0_checkInUse, .code yX0_checkInUse cX0_checkInUse 2 none, .classLink RX0 104 "java/lang/IllegalArgumentException", .initialized "java/lang/IllegalArgumentException", .methodLink RX0 112 yX0_checkHandle, .static yX0_checkHandle, .code yX0_checkHandle cX0_checkHandle 1 none] ++ wsX00 ++ (vx_atM "java/lang/ArrayIndexOutOfBoundsException" ["java/lang/IndexOutOfBoundsException", "java/lang/RuntimeException", "java/lang/Exception"]).filter goodWord ++ (vx_atS RX0 92 "java/lang/IllegalStateException" ["java/lang/RuntimeException", "java/lang/Exception"]).filter goodWord ++ (vx_atS RX0 108 "java/lang/IllegalArgumentException" ["java/lang/RuntimeException", "java/lang/Exception"]).filter goodWord)
def wsX0_lose_r1 : List Cond := [Cond.methodLink RX0 82 yX0_checkHasBlock, Cond.instanceMethod yX0_checkHasBlock, Cond.selects RX0 yX0_checkHasBlock yX0_checkHasBlock, Cond.initialized RX0, Cond.code yX0_checkHasBlock cX0_checkHasBlock 2 none, Cond.classLink RX0 88 "java/lang/IllegalStateException", Cond.initialized "java/lang/IllegalStateException", Cond.fieldLink RX0 13 "HandleHeap" "begin" "[I", Cond.methodLink RX0 60 yX0_checkInUse, Cond.instanceMethod yX0_checkInUse, Cond.selects RX0 yX0_checkInUse yX0_checkInUse, Cond.code yX0_checkInUse cX0_checkInUse 2 none, Cond.classLink RX0 104 "java/lang/IllegalArgumentException", Cond.initialized "java/lang/IllegalArgumentException", Cond.methodLink RX0 112 yX0_checkHandle, Cond.static yX0_checkHandle, Cond.code yX0_checkHandle cX0_checkHandle 1 none, Cond.methodLink RX0 74 yX0_isMovable, Cond.instanceMethod yX0_isMovable, Cond.selects RX0 yX0_isMovable yX0_isMovable, Cond.code yX0_isMovable cX0_isMovable 2 (some .boolean), Cond.fieldLink RX0 25 "HandleHeap" "isFixed" "[Z", Cond.fieldLink RX0 29 "HandleHeap" "isLocked" "[Z", Cond.methodLink RX0 85 yX0_giveUp]
def wsX0_lose_r2 : List Cond := [Cond.instanceMethod yX0_giveUp, Cond.selects RX0 yX0_giveUp yX0_giveUp, Cond.code yX0_giveUp cX0_giveUp 2 none, Cond.fieldLink RX0 45 "HandleHeap" "blocksLost" "I", Cond.methodLink RX0 63 yX0_takeBlock, Cond.instanceMethod yX0_takeBlock, Cond.selects RX0 yX0_takeBlock yX0_takeBlock, Cond.code yX0_takeBlock cX0_takeBlock 3 none, Cond.fieldLink RX0 22 "HandleHeap" "length" "[I", Cond.methodLink RX0 165 yX0_leaveRow, Cond.instanceMethod yX0_leaveRow, Cond.selects RX0 yX0_leaveRow yX0_leaveRow, Cond.code yX0_leaveRow cX0_leaveRow 4 none, Cond.fieldLink RX0 38 "HandleHeap" "blocks" "I", Cond.fieldLink RX0 35 "HandleHeap" "row" "[I"]
def wsX0_lose : List Cond := .code yX0_lose cX0_lose 2 (some .boolean) :: ((wsX0_lose_r1 ++ wsX0_lose_r2) ++ wsX00 ++ (vx_atM "java/lang/ArrayIndexOutOfBoundsException" ["java/lang/IndexOutOfBoundsException", "java/lang/RuntimeException", "java/lang/Exception"]).filter goodWord ++ (vx_atS RX0 92 "java/lang/IllegalStateException" ["java/lang/RuntimeException", "java/lang/Exception"]).filter goodWord ++ (vx_atS RX0 108 "java/lang/IllegalArgumentException" ["java/lang/RuntimeException", "java/lang/Exception"]).filter goodWord)
def wsX0_lift_r1 : List Cond := [Cond.classLink RX0 88 "java/lang/IllegalStateException", Cond.initialized "java/lang/IllegalStateException", Cond.fieldLink RX0 13 "HandleHeap" "begin" "[I", Cond.methodLink RX0 82 yX0_checkHasBlock, Cond.instanceMethod yX0_checkHasBlock, Cond.selects RX0 yX0_checkHasBlock yX0_checkHasBlock, Cond.initialized RX0, Cond.code yX0_checkHasBlock cX0_checkHasBlock 2 none, Cond.methodLink RX0 60 yX0_checkInUse, Cond.instanceMethod yX0_checkInUse, Cond.selects RX0 yX0_checkInUse yX0_checkInUse, Cond.code yX0_checkInUse cX0_checkInUse 2 none, Cond.classLink RX0 104 "java/lang/IllegalArgumentException", Cond.initialized "java/lang/IllegalArgumentException", Cond.methodLink RX0 112 yX0_checkHandle, Cond.static yX0_checkHandle, Cond.code yX0_checkHandle cX0_checkHandle 1 none, Cond.methodLink RX0 74 yX0_isMovable, Cond.instanceMethod yX0_isMovable, Cond.selects RX0 yX0_isMovable yX0_isMovable, Cond.code yX0_isMovable cX0_isMovable 2 (some .boolean), Cond.fieldLink RX0 25 "HandleHeap" "isFixed" "[Z", Cond.fieldLink RX0 29 "HandleHeap" "isLocked" "[Z", Cond.methodLink RX0 67 yX0_freeBehind]
def wsX0_lift_r2 : List Cond := [Cond.instanceMethod yX0_freeBehind, Cond.selects RX0 yX0_freeBehind yX0_freeBehind, Cond.code yX0_freeBehind cX0_freeBehind 3 (some .int), Cond.fieldLink RX0 38 "HandleHeap" "blocks" "I", Cond.fieldLink RX0 35 "HandleHeap" "row" "[I", Cond.methodLink RX0 150 yX0_gapLength, Cond.instanceMethod yX0_gapLength, Cond.selects RX0 yX0_gapLength yX0_gapLength, Cond.code yX0_gapLength cX0_gapLength 3 (some .int), Cond.methodLink RX0 147 yX0_gapBegin, Cond.instanceMethod yX0_gapBegin, Cond.selects RX0 yX0_gapBegin yX0_gapBegin, Cond.code yX0_gapBegin cX0_gapBegin 2 (some .int), Cond.methodLink RX0 120 yX0_endOf, Cond.instanceMethod yX0_endOf, Cond.selects RX0 yX0_endOf yX0_endOf, Cond.code yX0_endOf cX0_endOf 2 (some .int), Cond.fieldLink RX0 22 "HandleHeap" "length" "[I", Cond.methodLink RX0 95 yX0_moveTo, Cond.instanceMethod yX0_moveTo, Cond.selects RX0 yX0_moveTo yX0_moveTo, Cond.code yX0_moveTo cX0_moveTo 3 none, Cond.fieldLink RX0 9 "HandleHeap" "heap" "[I", Cond.methodLink RX0 171 arraycopyName]
def wsX0_lift_r3 : List Cond := [Cond.native arraycopyName, Cond.static arraycopyName, Cond.initialized "java/lang/System", Cond.fieldLink RX0 42 "HandleHeap" "bytesMoved" "I"]
def wsX0_lift : List Cond := .code yX0_lift cX0_lift 3 (some .int) :: ((wsX0_lift_r1 ++ (wsX0_lift_r2 ++ wsX0_lift_r3)) ++ wsX00 ++ (vx_atS RX0 92 "java/lang/IllegalStateException" ["java/lang/RuntimeException", "java/lang/Exception"]).filter goodWord ++ (vx_atM "java/lang/ArrayIndexOutOfBoundsException" ["java/lang/IndexOutOfBoundsException", "java/lang/RuntimeException", "java/lang/Exception"]).filter goodWord ++ (vx_atS RX0 108 "java/lang/IllegalArgumentException" ["java/lang/RuntimeException", "java/lang/Exception"]).filter goodWord)
def wsX0_greatestGap : List Cond := .code yX0_greatestGap cX0_greatestGap 3 (some .int) :: ([.fieldLink RX0 38 "HandleHeap" "blocks" "I", .methodLink RX0 153 Lib.Math.max.name, .static Lib.Math.max.name, .initialized "java/lang/Math", .code Lib.Math.max.name Lib.Math.max.code 2 (some .int), .methodLink RX0 150 yX0_gapLength, .instanceMethod yX0_gapLength, .selects RX0 yX0_gapLength yX0_gapLength, .initialized RX0, .code yX0_gapLength cX0_gapLength 3 (some .int), .fieldLink RX0 13 "HandleHeap" "begin" "[I", .fieldLink RX0 35 "HandleHeap" "row" "[I", .methodLink RX0 147 yX0_gapBegin, .instanceMethod yX0_gapBegin, .selects RX0 yX0_gapBegin yX0_gapBegin, .code yX0_gapBegin cX0_gapBegin 2 (some .int), .methodLink RX0 120 yX0_endOf, .instanceMethod yX0_endOf, .selects RX0 yX0_endOf yX0_endOf, .code yX0_endOf cX0_endOf 2 (some .int), .fieldLink RX0 22 "HandleHeap" "length" "[I"] ++ wsX00 ++ (vx_atM "java/lang/ArrayIndexOutOfBoundsException" ["java/lang/IndexOutOfBoundsException", "java/lang/RuntimeException", "java/lang/Exception"]).filter goodWord)
def wsX0_slide_r1 : List Cond := [Cond.methodLink RX0 98 yX0_slideTogether, Cond.instanceMethod yX0_slideTogether, Cond.selects RX0 yX0_slideTogether yX0_slideTogether, Cond.initialized RX0, Cond.code yX0_slideTogether cX0_slideTogether 4 none, Cond.fieldLink RX0 38 "HandleHeap" "blocks" "I", Cond.fieldLink RX0 35 "HandleHeap" "row" "[I", Cond.methodLink RX0 74 yX0_isMovable, Cond.instanceMethod yX0_isMovable, Cond.selects RX0 yX0_isMovable yX0_isMovable, Cond.code yX0_isMovable cX0_isMovable 2 (some .boolean), Cond.fieldLink RX0 25 "HandleHeap" "isFixed" "[Z", Cond.fieldLink RX0 29 "HandleHeap" "isLocked" "[Z", Cond.methodLink RX0 95 yX0_moveTo, Cond.instanceMethod yX0_moveTo, Cond.selects RX0 yX0_moveTo yX0_moveTo, Cond.code yX0_moveTo cX0_moveTo 3 none, Cond.fieldLink RX0 13 "HandleHeap" "begin" "[I", Cond.fieldLink RX0 9 "HandleHeap" "heap" "[I", Cond.fieldLink RX0 22 "HandleHeap" "length" "[I", Cond.methodLink RX0 171 arraycopyName, Cond.native arraycopyName, Cond.static arraycopyName, Cond.initialized "java/lang/System"]
def wsX0_slide_r2 : List Cond := [Cond.fieldLink RX0 42 "HandleHeap" "bytesMoved" "I", Cond.methodLink RX0 120 yX0_endOf, Cond.instanceMethod yX0_endOf, Cond.selects RX0 yX0_endOf yX0_endOf, Cond.code yX0_endOf cX0_endOf 2 (some .int), Cond.methodLink RX0 101 yX0_greatestGap, Cond.instanceMethod yX0_greatestGap, Cond.selects RX0 yX0_greatestGap yX0_greatestGap, Cond.code yX0_greatestGap cX0_greatestGap 3 (some .int), Cond.methodLink RX0 153 Lib.Math.max.name, Cond.static Lib.Math.max.name, Cond.initialized "java/lang/Math", Cond.code Lib.Math.max.name Lib.Math.max.code 2 (some .int), Cond.methodLink RX0 150 yX0_gapLength, Cond.instanceMethod yX0_gapLength, Cond.selects RX0 yX0_gapLength yX0_gapLength, Cond.code yX0_gapLength cX0_gapLength 3 (some .int), Cond.methodLink RX0 147 yX0_gapBegin, Cond.instanceMethod yX0_gapBegin, Cond.selects RX0 yX0_gapBegin yX0_gapBegin, Cond.code yX0_gapBegin cX0_gapBegin 2 (some .int)]
def wsX0_slide : List Cond := .code yX0_slide cX0_slide 1 (some .int) :: ((wsX0_slide_r1 ++ wsX0_slide_r2) ++ wsX00 ++ (vx_atM "java/lang/ArrayIndexOutOfBoundsException" ["java/lang/IndexOutOfBoundsException", "java/lang/RuntimeException", "java/lang/Exception"]).filter goodWord)
def wsX0_clear_r1 : List Cond := [Cond.classLink RX0 104 "java/lang/IllegalArgumentException", Cond.initialized "java/lang/IllegalArgumentException", Cond.methodLink RX0 101 yX0_greatestGap, Cond.instanceMethod yX0_greatestGap, Cond.selects RX0 yX0_greatestGap yX0_greatestGap, Cond.initialized RX0, Cond.code yX0_greatestGap cX0_greatestGap 3 (some .int), Cond.fieldLink RX0 38 "HandleHeap" "blocks" "I", Cond.methodLink RX0 153 Lib.Math.max.name, Cond.static Lib.Math.max.name, Cond.initialized "java/lang/Math", Cond.code Lib.Math.max.name Lib.Math.max.code 2 (some .int), Cond.methodLink RX0 150 yX0_gapLength, Cond.instanceMethod yX0_gapLength, Cond.selects RX0 yX0_gapLength yX0_gapLength, Cond.code yX0_gapLength cX0_gapLength 3 (some .int), Cond.fieldLink RX0 13 "HandleHeap" "begin" "[I", Cond.fieldLink RX0 35 "HandleHeap" "row" "[I", Cond.methodLink RX0 147 yX0_gapBegin, Cond.instanceMethod yX0_gapBegin, Cond.selects RX0 yX0_gapBegin yX0_gapBegin, Cond.code yX0_gapBegin cX0_gapBegin 2 (some .int), Cond.methodLink RX0 120 yX0_endOf, Cond.instanceMethod yX0_endOf]
def wsX0_clear_r2 : List Cond := [Cond.selects RX0 yX0_endOf yX0_endOf, Cond.code yX0_endOf cX0_endOf 2 (some .int), Cond.fieldLink RX0 22 "HandleHeap" "length" "[I", Cond.methodLink RX0 109 yX0_giveUpFirst, Cond.instanceMethod yX0_giveUpFirst, Cond.selects RX0 yX0_giveUpFirst yX0_giveUpFirst, Cond.code yX0_giveUpFirst cX0_giveUpFirst 4 (some .boolean), Cond.fieldLink RX0 32 "HandleHeap" "isLosable" "[Z", Cond.methodLink RX0 74 yX0_isMovable, Cond.instanceMethod yX0_isMovable, Cond.selects RX0 yX0_isMovable yX0_isMovable, Cond.code yX0_isMovable cX0_isMovable 2 (some .boolean), Cond.fieldLink RX0 25 "HandleHeap" "isFixed" "[Z", Cond.fieldLink RX0 29 "HandleHeap" "isLocked" "[Z", Cond.methodLink RX0 85 yX0_giveUp, Cond.instanceMethod yX0_giveUp, Cond.selects RX0 yX0_giveUp yX0_giveUp, Cond.code yX0_giveUp cX0_giveUp 2 none, Cond.fieldLink RX0 45 "HandleHeap" "blocksLost" "I", Cond.methodLink RX0 63 yX0_takeBlock, Cond.instanceMethod yX0_takeBlock, Cond.selects RX0 yX0_takeBlock yX0_takeBlock, Cond.code yX0_takeBlock cX0_takeBlock 3 none, Cond.methodLink RX0 165 yX0_leaveRow]
def wsX0_clear_r3 : List Cond := [Cond.instanceMethod yX0_leaveRow, Cond.selects RX0 yX0_leaveRow yX0_leaveRow, Cond.code yX0_leaveRow cX0_leaveRow 4 none, Cond.methodLink RX0 98 yX0_slideTogether, Cond.instanceMethod yX0_slideTogether, Cond.selects RX0 yX0_slideTogether yX0_slideTogether, Cond.code yX0_slideTogether cX0_slideTogether 4 none, Cond.methodLink RX0 95 yX0_moveTo, Cond.instanceMethod yX0_moveTo, Cond.selects RX0 yX0_moveTo yX0_moveTo, Cond.code yX0_moveTo cX0_moveTo 3 none, Cond.fieldLink RX0 9 "HandleHeap" "heap" "[I", Cond.methodLink RX0 171 arraycopyName, Cond.native arraycopyName, Cond.static arraycopyName, Cond.initialized "java/lang/System", Cond.fieldLink RX0 42 "HandleHeap" "bytesMoved" "I"]
def wsX0_clear : List Cond := .code yX0_clear cX0_clear 3 (some .int) :: ((wsX0_clear_r1 ++ (wsX0_clear_r2 ++ wsX0_clear_r3)) ++ wsX00 ++ (vx_atS RX0 108 "java/lang/IllegalArgumentException" ["java/lang/RuntimeException", "java/lang/Exception"]).filter goodWord ++ (vx_atM "java/lang/ArrayIndexOutOfBoundsException" ["java/lang/IndexOutOfBoundsException", "java/lang/RuntimeException", "java/lang/Exception"]).filter goodWord)
def wsX0_where : List Cond := .code yX0_where cX0_where 2 (some .int) :: ([.fieldLink RX0 13 "HandleHeap" "begin" "[I", .methodLink RX0 112 yX0_checkHandle, .static yX0_checkHandle, .initialized RX0, .code yX0_checkHandle cX0_checkHandle 1 none, .classLink RX0 104 "java/lang/IllegalArgumentException", .initialized "java/lang/IllegalArgumentException"] ++ wsX00 ++ (vx_atM "java/lang/ArrayIndexOutOfBoundsException" ["java/lang/IndexOutOfBoundsException", "java/lang/RuntimeException", "java/lang/Exception"]).filter goodWord ++ (vx_atS RX0 108 "java/lang/IllegalArgumentException" ["java/lang/RuntimeException", "java/lang/Exception"]).filter goodWord)
def wsX0_size : List Cond := .code yX0_size cX0_size 2 (some .int) :: ([.fieldLink RX0 22 "HandleHeap" "length" "[I", .methodLink RX0 112 yX0_checkHandle, .static yX0_checkHandle, .initialized RX0, .code yX0_checkHandle cX0_checkHandle 1 none, .classLink RX0 104 "java/lang/IllegalArgumentException", .initialized "java/lang/IllegalArgumentException"] ++ wsX00 ++ (vx_atM "java/lang/ArrayIndexOutOfBoundsException" ["java/lang/IndexOutOfBoundsException", "java/lang/RuntimeException", "java/lang/Exception"]).filter goodWord ++ (vx_atS RX0 108 "java/lang/IllegalArgumentException" ["java/lang/RuntimeException", "java/lang/Exception"]).filter goodWord)
def wsX0_checkByte : List Cond := .code yX0_checkByte cX0_checkByte 2 none :: ([.classLink RX0 142 "java/lang/IndexOutOfBoundsException", .initialized "java/lang/IndexOutOfBoundsException"] ++ (vx_atS RX0 146 "java/lang/IndexOutOfBoundsException" ["java/lang/RuntimeException", "java/lang/Exception"]).filter goodWord)
def wsX0_put : List Cond := .code yX0_put cX0_put 6 (some .int) :: ([.classLink RX0 104 "java/lang/IllegalArgumentException", .initialized "java/lang/IllegalArgumentException", .fieldLink RX0 22 "HandleHeap" "length" "[I", .fieldLink RX0 13 "HandleHeap" "begin" "[I", .fieldLink RX0 9 "HandleHeap" "heap" "[I", .methodLink RX0 82 yX0_checkHasBlock, .instanceMethod yX0_checkHasBlock, .selects RX0 yX0_checkHasBlock yX0_checkHasBlock, .initialized RX0, .code yX0_checkHasBlock cX0_checkHasBlock 2 none, .classLink RX0 88 "java/lang/IllegalStateException", .initialized "java/lang/IllegalStateException", .methodLink RX0 60 yX0_checkInUse, .instanceMethod yX0_checkInUse, .selects RX0 yX0_checkInUse yX0_checkInUse, .code yX0_checkInUse cX0_checkInUse 2 none, .methodLink RX0 112 yX0_checkHandle, .static yX0_checkHandle, .code yX0_checkHandle cX0_checkHandle 1 none, .methodLink RX0 117 yX0_checkByte, .static yX0_checkByte, .code yX0_checkByte cX0_checkByte 2 none, .classLink RX0 142 "java/lang/IndexOutOfBoundsException", .initialized "java/lang/IndexOutOfBoundsException"] ++ wsX00 ++ (vx_atS RX0 108 "java/lang/IllegalArgumentException" ["java/lang/RuntimeException", "java/lang/Exception"]).filter goodWord ++ (vx_atM "java/lang/ArrayIndexOutOfBoundsException" ["java/lang/IndexOutOfBoundsException", "java/lang/RuntimeException", "java/lang/Exception"]).filter goodWord ++ (vx_atS RX0 92 "java/lang/IllegalStateException" ["java/lang/RuntimeException", "java/lang/Exception"]).filter goodWord ++ (vx_atS RX0 146 "java/lang/IndexOutOfBoundsException" ["java/lang/RuntimeException", "java/lang/Exception"]).filter goodWord)
def wsX0_get : List Cond := .code yX0_get cX0_get 3 (some .int) :: ([.fieldLink RX0 22 "HandleHeap" "length" "[I", .fieldLink RX0 9 "HandleHeap" "heap" "[I", .fieldLink RX0 13 "HandleHeap" "begin" "[I", .methodLink RX0 82 yX0_checkHasBlock, .instanceMethod yX0_checkHasBlock, .selects RX0 yX0_checkHasBlock yX0_checkHasBlock, .initialized RX0, .code yX0_checkHasBlock cX0_checkHasBlock 2 none, .classLink RX0 88 "java/lang/IllegalStateException", .initialized "java/lang/IllegalStateException", .methodLink RX0 60 yX0_checkInUse, .instanceMethod yX0_checkInUse, .selects RX0 yX0_checkInUse yX0_checkInUse, .code yX0_checkInUse cX0_checkInUse 2 none, .classLink RX0 104 "java/lang/IllegalArgumentException", .initialized "java/lang/IllegalArgumentException", .methodLink RX0 112 yX0_checkHandle, .static yX0_checkHandle, .code yX0_checkHandle cX0_checkHandle 1 none, .methodLink RX0 117 yX0_checkByte, .static yX0_checkByte, .code yX0_checkByte cX0_checkByte 2 none, .classLink RX0 142 "java/lang/IndexOutOfBoundsException", .initialized "java/lang/IndexOutOfBoundsException"] ++ wsX00 ++ (vx_atM "java/lang/ArrayIndexOutOfBoundsException" ["java/lang/IndexOutOfBoundsException", "java/lang/RuntimeException", "java/lang/Exception"]).filter goodWord ++ (vx_atS RX0 92 "java/lang/IllegalStateException" ["java/lang/RuntimeException", "java/lang/Exception"]).filter goodWord ++ (vx_atS RX0 108 "java/lang/IllegalArgumentException" ["java/lang/RuntimeException", "java/lang/Exception"]).filter goodWord ++ (vx_atS RX0 146 "java/lang/IndexOutOfBoundsException" ["java/lang/RuntimeException", "java/lang/Exception"]).filter goodWord)
def wsX0_owner : List Cond := .code yX0_owner cX0_owner 4 (some .int) :: ([.fieldLink RX0 38 "HandleHeap" "blocks" "I", .fieldLink RX0 35 "HandleHeap" "row" "[I", .fieldLink RX0 13 "HandleHeap" "begin" "[I", .methodLink RX0 117 yX0_checkByte, .static yX0_checkByte, .initialized RX0, .code yX0_checkByte cX0_checkByte 2 none, .classLink RX0 142 "java/lang/IndexOutOfBoundsException", .initialized "java/lang/IndexOutOfBoundsException", .methodLink RX0 120 yX0_endOf, .instanceMethod yX0_endOf, .selects RX0 yX0_endOf yX0_endOf, .code yX0_endOf cX0_endOf 2 (some .int), .fieldLink RX0 22 "HandleHeap" "length" "[I"] ++ wsX00 ++ (vx_atM "java/lang/ArrayIndexOutOfBoundsException" ["java/lang/IndexOutOfBoundsException", "java/lang/RuntimeException", "java/lang/Exception"]).filter goodWord ++ (vx_atS RX0 146 "java/lang/IndexOutOfBoundsException" ["java/lang/RuntimeException", "java/lang/Exception"]).filter goodWord)
def wsX0_freeBytes : List Cond := .code yX0_freeBytes cX0_freeBytes 3 (some .int) :: ([.fieldLink RX0 38 "HandleHeap" "blocks" "I", .methodLink RX0 150 yX0_gapLength, .instanceMethod yX0_gapLength, .selects RX0 yX0_gapLength yX0_gapLength, .initialized RX0, .code yX0_gapLength cX0_gapLength 3 (some .int), .fieldLink RX0 13 "HandleHeap" "begin" "[I", .fieldLink RX0 35 "HandleHeap" "row" "[I", .methodLink RX0 147 yX0_gapBegin, .instanceMethod yX0_gapBegin, .selects RX0 yX0_gapBegin yX0_gapBegin, .code yX0_gapBegin cX0_gapBegin 2 (some .int), .methodLink RX0 120 yX0_endOf, .instanceMethod yX0_endOf, .selects RX0 yX0_endOf yX0_endOf, .code yX0_endOf cX0_endOf 2 (some .int), .fieldLink RX0 22 "HandleHeap" "length" "[I"] ++ wsX00 ++ (vx_atM "java/lang/ArrayIndexOutOfBoundsException" ["java/lang/IndexOutOfBoundsException", "java/lang/RuntimeException", "java/lang/Exception"]).filter goodWord)
def wsX0_countGaps : List Cond := .code yX0_countGaps cX0_countGaps 3 (some .int) :: ([.fieldLink RX0 38 "HandleHeap" "blocks" "I", .methodLink RX0 150 yX0_gapLength, .instanceMethod yX0_gapLength, .selects RX0 yX0_gapLength yX0_gapLength, .initialized RX0, .code yX0_gapLength cX0_gapLength 3 (some .int), .fieldLink RX0 13 "HandleHeap" "begin" "[I", .fieldLink RX0 35 "HandleHeap" "row" "[I", .methodLink RX0 147 yX0_gapBegin, .instanceMethod yX0_gapBegin, .selects RX0 yX0_gapBegin yX0_gapBegin, .code yX0_gapBegin cX0_gapBegin 2 (some .int), .methodLink RX0 120 yX0_endOf, .instanceMethod yX0_endOf, .selects RX0 yX0_endOf yX0_endOf, .code yX0_endOf cX0_endOf 2 (some .int), .fieldLink RX0 22 "HandleHeap" "length" "[I"] ++ wsX00 ++ (vx_atM "java/lang/ArrayIndexOutOfBoundsException" ["java/lang/IndexOutOfBoundsException", "java/lang/RuntimeException", "java/lang/Exception"]).filter goodWord)
def wsX0_countHandles : List Cond := .code yX0_countHandles cX0_countHandles 4 (some .int) :: ([.fieldLink RX0 13 "HandleHeap" "begin" "[I"] ++ wsX00 ++ (vx_atM "java/lang/ArrayIndexOutOfBoundsException" ["java/lang/IndexOutOfBoundsException", "java/lang/RuntimeException", "java/lang/Exception"]).filter goodWord)
def wsX0_told_r1 : List Cond := [Cond.classLink RX0 104 "java/lang/IllegalArgumentException", Cond.initialized "java/lang/IllegalArgumentException", Cond.fieldLink RX0 42 "HandleHeap" "bytesMoved" "I", Cond.fieldLink RX0 45 "HandleHeap" "blocksLost" "I", Cond.methodLink RX0 123 yX0_freeBytes, Cond.instanceMethod yX0_freeBytes, Cond.selects RX0 yX0_freeBytes yX0_freeBytes, Cond.initialized RX0, Cond.code yX0_freeBytes cX0_freeBytes 3 (some .int), Cond.fieldLink RX0 38 "HandleHeap" "blocks" "I", Cond.methodLink RX0 150 yX0_gapLength, Cond.instanceMethod yX0_gapLength, Cond.selects RX0 yX0_gapLength yX0_gapLength, Cond.code yX0_gapLength cX0_gapLength 3 (some .int), Cond.fieldLink RX0 13 "HandleHeap" "begin" "[I", Cond.fieldLink RX0 35 "HandleHeap" "row" "[I", Cond.methodLink RX0 147 yX0_gapBegin, Cond.instanceMethod yX0_gapBegin, Cond.selects RX0 yX0_gapBegin yX0_gapBegin, Cond.code yX0_gapBegin cX0_gapBegin 2 (some .int), Cond.methodLink RX0 120 yX0_endOf, Cond.instanceMethod yX0_endOf, Cond.selects RX0 yX0_endOf yX0_endOf, Cond.code yX0_endOf cX0_endOf 2 (some .int)]
def wsX0_told_r2 : List Cond := [Cond.fieldLink RX0 22 "HandleHeap" "length" "[I", Cond.methodLink RX0 101 yX0_greatestGap, Cond.instanceMethod yX0_greatestGap, Cond.selects RX0 yX0_greatestGap yX0_greatestGap, Cond.code yX0_greatestGap cX0_greatestGap 3 (some .int), Cond.methodLink RX0 153 Lib.Math.max.name, Cond.static Lib.Math.max.name, Cond.initialized "java/lang/Math", Cond.code Lib.Math.max.name Lib.Math.max.code 2 (some .int), Cond.methodLink RX0 126 yX0_countGaps, Cond.instanceMethod yX0_countGaps, Cond.selects RX0 yX0_countGaps yX0_countGaps, Cond.code yX0_countGaps cX0_countGaps 3 (some .int), Cond.methodLink RX0 129 yX0_countHandles, Cond.instanceMethod yX0_countHandles, Cond.selects RX0 yX0_countHandles yX0_countHandles, Cond.code yX0_countHandles cX0_countHandles 4 (some .int)]
def wsX0_told : List Cond := .code yX0_told cX0_told 2 (some .int) :: ((wsX0_told_r1 ++ wsX0_told_r2) ++ wsX00 ++ (vx_atS RX0 108 "java/lang/IllegalArgumentException" ["java/lang/RuntimeException", "java/lang/Exception"]).filter goodWord ++ (vx_atM "java/lang/ArrayIndexOutOfBoundsException" ["java/lang/IndexOutOfBoundsException", "java/lang/RuntimeException", "java/lang/Exception"]).filter goodWord)
def wsX1_init : List Cond := .code yX1_init cX1_init 1 none :: ([.methodLink RX1 1 objectInit, .instanceMethod objectInit, .code objectInit ⟨#[0xb1]⟩ 1 none, .arrayClass .boolean, .fieldLink RX1 7 "HandleHeapModel" "used" "[Z", .arrayClass .int, .fieldLink RX1 13 "HandleHeapModel" "begin" "[I", .fieldLink RX1 17 "HandleHeapModel" "size" "[I", .fieldLink RX1 20 "HandleHeapModel" "fixed" "[Z", .fieldLink RX1 23 "HandleHeapModel" "locked" "[Z", .fieldLink RX1 26 "HandleHeapModel" "losable" "[Z", .constant RX1 29 (49152), .fieldLink RX1 30 "HandleHeapModel" "bytes" "[I"] ++ wsX10)
def wsX1_thrown : List Cond := .code yX1_thrown cX1_thrown 1 (some .int) :: ([.fieldLink RX1 33 "HandleHeapModel" "thrown" "I"] ++ wsX10)
def wsX1_has : List Cond := .code yX1_has cX1_has 2 (some .boolean) :: ([.fieldLink RX1 7 "HandleHeapModel" "used" "[Z", .fieldLink RX1 17 "HandleHeapModel" "size" "[I"] ++ wsX10 ++ (vx_atM "java/lang/ArrayIndexOutOfBoundsException" ["java/lang/IndexOutOfBoundsException", "java/lang/RuntimeException", "java/lang/Exception"]).filter goodWord)
def wsX1_isMovable : List Cond := .code yX1_isMovable cX1_isMovable 2 (some .boolean) :: ([.fieldLink RX1 20 "HandleHeapModel" "fixed" "[Z", .fieldLink RX1 23 "HandleHeapModel" "locked" "[Z", .methodLink RX1 37 yX1_has, .instanceMethod yX1_has, .selects RX1 yX1_has yX1_has, .initialized RX1, .code yX1_has cX1_has 2 (some .boolean), .fieldLink RX1 7 "HandleHeapModel" "used" "[Z", .fieldLink RX1 17 "HandleHeapModel" "size" "[I"] ++ wsX10 ++ (vx_atM "java/lang/ArrayIndexOutOfBoundsException" ["java/lang/IndexOutOfBoundsException", "java/lang/RuntimeException", "java/lang/Exception"]).filter goodWord)
def wsX1_firstFrom : List Cond := .code yX1_firstFrom cX1_firstFrom 4 (some .int) :: ([.fieldLink RX1 13 "HandleHeapModel" "begin" "[I", .methodLink RX1 37 yX1_has, .instanceMethod yX1_has, .selects RX1 yX1_has yX1_has, .initialized RX1, .code yX1_has cX1_has 2 (some .boolean), .fieldLink RX1 7 "HandleHeapModel" "used" "[Z", .fieldLink RX1 17 "HandleHeapModel" "size" "[I"] ++ wsX10 ++ (vx_atM "java/lang/ArrayIndexOutOfBoundsException" ["java/lang/IndexOutOfBoundsException", "java/lang/RuntimeException", "java/lang/Exception"]).filter goodWord)
def wsX1_freeTo : List Cond := .code yX1_freeTo cX1_freeTo 3 (some .int) :: ([.fieldLink RX1 13 "HandleHeapModel" "begin" "[I", .methodLink RX1 41 yX1_firstFrom, .instanceMethod yX1_firstFrom, .selects RX1 yX1_firstFrom yX1_firstFrom, .initialized RX1, .code yX1_firstFrom cX1_firstFrom 4 (some .int), .methodLink RX1 37 yX1_has, .instanceMethod yX1_has, .selects RX1 yX1_has yX1_has, .code yX1_has cX1_has 2 (some .boolean), .fieldLink RX1 7 "HandleHeapModel" "used" "[Z", .fieldLink RX1 17 "HandleHeapModel" "size" "[I"] ++ wsX10 ++ (vx_atM "java/lang/ArrayIndexOutOfBoundsException" ["java/lang/IndexOutOfBoundsException", "java/lang/RuntimeException", "java/lang/Exception"]).filter goodWord)
def wsX1_place : List Cond := .code yX1_place cX1_place 4 (some .int) :: ([.fieldLink RX1 17 "HandleHeapModel" "size" "[I", .methodLink RX1 45 yX1_freeTo, .instanceMethod yX1_freeTo, .selects RX1 yX1_freeTo yX1_freeTo, .initialized RX1, .code yX1_freeTo cX1_freeTo 3 (some .int), .fieldLink RX1 13 "HandleHeapModel" "begin" "[I", .methodLink RX1 41 yX1_firstFrom, .instanceMethod yX1_firstFrom, .selects RX1 yX1_firstFrom yX1_firstFrom, .code yX1_firstFrom cX1_firstFrom 4 (some .int), .methodLink RX1 37 yX1_has, .instanceMethod yX1_has, .selects RX1 yX1_has yX1_has, .code yX1_has cX1_has 2 (some .boolean), .fieldLink RX1 7 "HandleHeapModel" "used" "[Z"] ++ wsX10 ++ (vx_atM "java/lang/ArrayIndexOutOfBoundsException" ["java/lang/IndexOutOfBoundsException", "java/lang/RuntimeException", "java/lang/Exception"]).filter goodWord)
def wsX1_greatest : List Cond := .code yX1_greatest cX1_greatest 4 (some .int) :: ([.fieldLink RX1 17 "HandleHeapModel" "size" "[I", .methodLink RX1 45 yX1_freeTo, .instanceMethod yX1_freeTo, .selects RX1 yX1_freeTo yX1_freeTo, .initialized RX1, .code yX1_freeTo cX1_freeTo 3 (some .int), .fieldLink RX1 13 "HandleHeapModel" "begin" "[I", .methodLink RX1 41 yX1_firstFrom, .instanceMethod yX1_firstFrom, .selects RX1 yX1_firstFrom yX1_firstFrom, .code yX1_firstFrom cX1_firstFrom 4 (some .int), .methodLink RX1 37 yX1_has, .instanceMethod yX1_has, .selects RX1 yX1_has yX1_has, .code yX1_has cX1_has 2 (some .boolean), .fieldLink RX1 7 "HandleHeapModel" "used" "[Z"] ++ wsX10 ++ (vx_atM "java/lang/ArrayIndexOutOfBoundsException" ["java/lang/IndexOutOfBoundsException", "java/lang/RuntimeException", "java/lang/Exception"]).filter goodWord)
def wsX1_slideAll : List Cond := .code yX1_slideAll cX1_slideAll 3 none :: ([.fieldLink RX1 13 "HandleHeapModel" "begin" "[I", .fieldLink RX1 51 "HandleHeapModel" "moved" "I", .fieldLink RX1 17 "HandleHeapModel" "size" "[I", .methodLink RX1 41 yX1_firstFrom, .instanceMethod yX1_firstFrom, .selects RX1 yX1_firstFrom yX1_firstFrom, .initialized RX1, .code yX1_firstFrom cX1_firstFrom 4 (some .int), .methodLink RX1 37 yX1_has, .instanceMethod yX1_has, .selects RX1 yX1_has yX1_has, .code yX1_has cX1_has 2 (some .boolean), .fieldLink RX1 7 "HandleHeapModel" "used" "[Z", .methodLink RX1 48 yX1_isMovable, .instanceMethod yX1_isMovable, .selects RX1 yX1_isMovable yX1_isMovable, .code yX1_isMovable cX1_isMovable 2 (some .boolean), .fieldLink RX1 20 "HandleHeapModel" "fixed" "[Z", .fieldLink RX1 23 "HandleHeapModel" "locked" "[Z"] ++ wsX10 ++ (vx_atM "java/lang/ArrayIndexOutOfBoundsException" ["java/lang/IndexOutOfBoundsException", "java/lang/RuntimeException", "java/lang/Exception"]).filter goodWord)
def wsX1_loseOne : List Cond := .code yX1_loseOne cX1_loseOne 2 none :: ([.fieldLink RX1 17 "HandleHeapModel" "size" "[I", .fieldLink RX1 54 "HandleHeapModel" "lost" "I"] ++ wsX10 ++ (vx_atM "java/lang/ArrayIndexOutOfBoundsException" ["java/lang/IndexOutOfBoundsException", "java/lang/RuntimeException", "java/lang/Exception"]).filter goodWord)
def wsX1_firstToLose : List Cond := .code yX1_firstToLose cX1_firstToLose 4 (some .int) :: ([.fieldLink RX1 26 "HandleHeapModel" "losable" "[Z", .fieldLink RX1 13 "HandleHeapModel" "begin" "[I", .methodLink RX1 48 yX1_isMovable, .instanceMethod yX1_isMovable, .selects RX1 yX1_isMovable yX1_isMovable, .initialized RX1, .code yX1_isMovable cX1_isMovable 2 (some .boolean), .fieldLink RX1 20 "HandleHeapModel" "fixed" "[Z", .fieldLink RX1 23 "HandleHeapModel" "locked" "[Z", .methodLink RX1 37 yX1_has, .instanceMethod yX1_has, .selects RX1 yX1_has yX1_has, .code yX1_has cX1_has 2 (some .boolean), .fieldLink RX1 7 "HandleHeapModel" "used" "[Z", .fieldLink RX1 17 "HandleHeapModel" "size" "[I"] ++ wsX10 ++ (vx_atM "java/lang/ArrayIndexOutOfBoundsException" ["java/lang/IndexOutOfBoundsException", "java/lang/RuntimeException", "java/lang/Exception"]).filter goodWord)
def wsX1_room_r1 : List Cond := [Cond.methodLink RX1 57 yX1_place, Cond.instanceMethod yX1_place, Cond.selects RX1 yX1_place yX1_place, Cond.initialized RX1, Cond.code yX1_place cX1_place 4 (some .int), Cond.fieldLink RX1 17 "HandleHeapModel" "size" "[I", Cond.methodLink RX1 45 yX1_freeTo, Cond.instanceMethod yX1_freeTo, Cond.selects RX1 yX1_freeTo yX1_freeTo, Cond.code yX1_freeTo cX1_freeTo 3 (some .int), Cond.fieldLink RX1 13 "HandleHeapModel" "begin" "[I", Cond.methodLink RX1 41 yX1_firstFrom, Cond.instanceMethod yX1_firstFrom, Cond.selects RX1 yX1_firstFrom yX1_firstFrom, Cond.code yX1_firstFrom cX1_firstFrom 4 (some .int), Cond.methodLink RX1 37 yX1_has, Cond.instanceMethod yX1_has, Cond.selects RX1 yX1_has yX1_has, Cond.code yX1_has cX1_has 2 (some .boolean), Cond.fieldLink RX1 7 "HandleHeapModel" "used" "[Z", Cond.methodLink RX1 60 yX1_slideAll, Cond.instanceMethod yX1_slideAll, Cond.selects RX1 yX1_slideAll yX1_slideAll, Cond.code yX1_slideAll cX1_slideAll 3 none]
def wsX1_room_r2 : List Cond := [Cond.fieldLink RX1 51 "HandleHeapModel" "moved" "I", Cond.methodLink RX1 48 yX1_isMovable, Cond.instanceMethod yX1_isMovable, Cond.selects RX1 yX1_isMovable yX1_isMovable, Cond.code yX1_isMovable cX1_isMovable 2 (some .boolean), Cond.fieldLink RX1 20 "HandleHeapModel" "fixed" "[Z", Cond.fieldLink RX1 23 "HandleHeapModel" "locked" "[Z", Cond.methodLink RX1 63 yX1_firstToLose, Cond.instanceMethod yX1_firstToLose, Cond.selects RX1 yX1_firstToLose yX1_firstToLose, Cond.code yX1_firstToLose cX1_firstToLose 4 (some .int), Cond.fieldLink RX1 26 "HandleHeapModel" "losable" "[Z", Cond.methodLink RX1 66 yX1_loseOne, Cond.instanceMethod yX1_loseOne, Cond.selects RX1 yX1_loseOne yX1_loseOne, Cond.code yX1_loseOne cX1_loseOne 2 none, Cond.fieldLink RX1 54 "HandleHeapModel" "lost" "I"]
def wsX1_room : List Cond := .code yX1_room cX1_room 5 (some .int) :: ((wsX1_room_r1 ++ wsX1_room_r2) ++ wsX10 ++ (vx_atM "java/lang/ArrayIndexOutOfBoundsException" ["java/lang/IndexOutOfBoundsException", "java/lang/RuntimeException", "java/lang/Exception"]).filter goodWord)
def wsX1_noSize : List Cond := .code yX1_noSize cX1_noSize 1 (some .boolean) :: ([])
def wsX1_notUsed : List Cond := .code yX1_notUsed cX1_notUsed 2 (some .boolean) :: ([.fieldLink RX1 7 "HandleHeapModel" "used" "[Z"] ++ wsX10 ++ (vx_atM "java/lang/ArrayIndexOutOfBoundsException" ["java/lang/IndexOutOfBoundsException", "java/lang/RuntimeException", "java/lang/Exception"]).filter goodWord)
def wsX1_become : List Cond := .code yX1_become cX1_become 5 none :: ([.fieldLink RX1 13 "HandleHeapModel" "begin" "[I", .fieldLink RX1 17 "HandleHeapModel" "size" "[I", .fieldLink RX1 30 "HandleHeapModel" "bytes" "[I"] ++ wsX10 ++ (vx_atM "java/lang/ArrayIndexOutOfBoundsException" ["java/lang/IndexOutOfBoundsException", "java/lang/RuntimeException", "java/lang/Exception"]).filter goodWord)
def wsX1_ask_r1 : List Cond := [Cond.fieldLink RX1 33 "HandleHeapModel" "thrown" "I", Cond.fieldLink RX1 7 "HandleHeapModel" "used" "[Z", Cond.fieldLink RX1 20 "HandleHeapModel" "fixed" "[Z", Cond.fieldLink RX1 23 "HandleHeapModel" "locked" "[Z", Cond.fieldLink RX1 26 "HandleHeapModel" "losable" "[Z", Cond.methodLink RX1 70 yX1_noSize, Cond.static yX1_noSize, Cond.initialized RX1, Cond.code yX1_noSize cX1_noSize 1 (some .boolean), Cond.methodLink RX1 73 yX1_room, Cond.instanceMethod yX1_room, Cond.selects RX1 yX1_room yX1_room, Cond.code yX1_room cX1_room 5 (some .int), Cond.methodLink RX1 57 yX1_place, Cond.instanceMethod yX1_place, Cond.selects RX1 yX1_place yX1_place, Cond.code yX1_place cX1_place 4 (some .int), Cond.fieldLink RX1 17 "HandleHeapModel" "size" "[I", Cond.methodLink RX1 45 yX1_freeTo, Cond.instanceMethod yX1_freeTo, Cond.selects RX1 yX1_freeTo yX1_freeTo, Cond.code yX1_freeTo cX1_freeTo 3 (some .int), Cond.fieldLink RX1 13 "HandleHeapModel" "begin" "[I", Cond.methodLink RX1 41 yX1_firstFrom]
def wsX1_ask_r2 : List Cond := [Cond.instanceMethod yX1_firstFrom, Cond.selects RX1 yX1_firstFrom yX1_firstFrom, Cond.code yX1_firstFrom cX1_firstFrom 4 (some .int), Cond.methodLink RX1 37 yX1_has, Cond.instanceMethod yX1_has, Cond.selects RX1 yX1_has yX1_has, Cond.code yX1_has cX1_has 2 (some .boolean), Cond.methodLink RX1 60 yX1_slideAll, Cond.instanceMethod yX1_slideAll, Cond.selects RX1 yX1_slideAll yX1_slideAll, Cond.code yX1_slideAll cX1_slideAll 3 none, Cond.fieldLink RX1 51 "HandleHeapModel" "moved" "I", Cond.methodLink RX1 48 yX1_isMovable, Cond.instanceMethod yX1_isMovable, Cond.selects RX1 yX1_isMovable yX1_isMovable, Cond.code yX1_isMovable cX1_isMovable 2 (some .boolean), Cond.methodLink RX1 63 yX1_firstToLose, Cond.instanceMethod yX1_firstToLose, Cond.selects RX1 yX1_firstToLose yX1_firstToLose, Cond.code yX1_firstToLose cX1_firstToLose 4 (some .int), Cond.methodLink RX1 66 yX1_loseOne, Cond.instanceMethod yX1_loseOne, Cond.selects RX1 yX1_loseOne yX1_loseOne, Cond.code yX1_loseOne cX1_loseOne 2 none]
def wsX1_ask_r3 : List Cond := [Cond.fieldLink RX1 54 "HandleHeapModel" "lost" "I", Cond.methodLink RX1 77 yX1_become, Cond.instanceMethod yX1_become, Cond.selects RX1 yX1_become yX1_become, Cond.code yX1_become cX1_become 5 none, Cond.fieldLink RX1 30 "HandleHeapModel" "bytes" "[I"]
def wsX1_ask : List Cond := .code yX1_ask cX1_ask 5 (some .int) :: ((wsX1_ask_r1 ++ (wsX1_ask_r2 ++ wsX1_ask_r3)) ++ wsX10 ++ (vx_atM "java/lang/ArrayIndexOutOfBoundsException" ["java/lang/IndexOutOfBoundsException", "java/lang/RuntimeException", "java/lang/Exception"]).filter goodWord)
def wsX1_drop : List Cond := .code yX1_drop cX1_drop 3 (some .int) :: ([.fieldLink RX1 33 "HandleHeapModel" "thrown" "I", .fieldLink RX1 17 "HandleHeapModel" "size" "[I", .fieldLink RX1 7 "HandleHeapModel" "used" "[Z", .methodLink RX1 81 yX1_notUsed, .instanceMethod yX1_notUsed, .selects RX1 yX1_notUsed yX1_notUsed, .initialized RX1, .code yX1_notUsed cX1_notUsed 2 (some .boolean)] ++ wsX10 ++ (vx_atM "java/lang/ArrayIndexOutOfBoundsException" ["java/lang/IndexOutOfBoundsException", "java/lang/RuntimeException", "java/lang/Exception"]).filter goodWord)
def wsX1_resize_r1 : List Cond := [Cond.fieldLink RX1 33 "HandleHeapModel" "thrown" "I", Cond.fieldLink RX1 17 "HandleHeapModel" "size" "[I", Cond.fieldLink RX1 20 "HandleHeapModel" "fixed" "[Z", Cond.fieldLink RX1 23 "HandleHeapModel" "locked" "[Z", Cond.fieldLink RX1 26 "HandleHeapModel" "losable" "[Z", Cond.fieldLink RX1 13 "HandleHeapModel" "begin" "[I", Cond.fieldLink RX1 51 "HandleHeapModel" "moved" "I", Cond.fieldLink RX1 30 "HandleHeapModel" "bytes" "[I", Cond.methodLink RX1 81 yX1_notUsed, Cond.instanceMethod yX1_notUsed, Cond.selects RX1 yX1_notUsed yX1_notUsed, Cond.initialized RX1, Cond.code yX1_notUsed cX1_notUsed 2 (some .boolean), Cond.fieldLink RX1 7 "HandleHeapModel" "used" "[Z", Cond.methodLink RX1 70 yX1_noSize, Cond.static yX1_noSize, Cond.code yX1_noSize cX1_noSize 1 (some .boolean), Cond.methodLink RX1 73 yX1_room, Cond.instanceMethod yX1_room, Cond.selects RX1 yX1_room yX1_room, Cond.code yX1_room cX1_room 5 (some .int), Cond.methodLink RX1 57 yX1_place, Cond.instanceMethod yX1_place, Cond.selects RX1 yX1_place yX1_place]
def wsX1_resize_r2 : List Cond := [Cond.code yX1_place cX1_place 4 (some .int), Cond.methodLink RX1 45 yX1_freeTo, Cond.instanceMethod yX1_freeTo, Cond.selects RX1 yX1_freeTo yX1_freeTo, Cond.code yX1_freeTo cX1_freeTo 3 (some .int), Cond.methodLink RX1 41 yX1_firstFrom, Cond.instanceMethod yX1_firstFrom, Cond.selects RX1 yX1_firstFrom yX1_firstFrom, Cond.code yX1_firstFrom cX1_firstFrom 4 (some .int), Cond.methodLink RX1 37 yX1_has, Cond.instanceMethod yX1_has, Cond.selects RX1 yX1_has yX1_has, Cond.code yX1_has cX1_has 2 (some .boolean), Cond.methodLink RX1 60 yX1_slideAll, Cond.instanceMethod yX1_slideAll, Cond.selects RX1 yX1_slideAll yX1_slideAll, Cond.code yX1_slideAll cX1_slideAll 3 none, Cond.methodLink RX1 48 yX1_isMovable, Cond.instanceMethod yX1_isMovable, Cond.selects RX1 yX1_isMovable yX1_isMovable, Cond.code yX1_isMovable cX1_isMovable 2 (some .boolean), Cond.methodLink RX1 63 yX1_firstToLose, Cond.instanceMethod yX1_firstToLose, Cond.selects RX1 yX1_firstToLose yX1_firstToLose]
def wsX1_resize_r3 : List Cond := [Cond.code yX1_firstToLose cX1_firstToLose 4 (some .int), Cond.methodLink RX1 66 yX1_loseOne, Cond.instanceMethod yX1_loseOne, Cond.selects RX1 yX1_loseOne yX1_loseOne, Cond.code yX1_loseOne cX1_loseOne 2 none, Cond.fieldLink RX1 54 "HandleHeapModel" "lost" "I", Cond.methodLink RX1 77 yX1_become, Cond.instanceMethod yX1_become, Cond.selects RX1 yX1_become yX1_become, Cond.code yX1_become cX1_become 5 none]
def wsX1_resize : List Cond := .code yX1_resize cX1_resize 5 (some .boolean) :: ((wsX1_resize_r1 ++ (wsX1_resize_r2 ++ wsX1_resize_r3)) ++ wsX10 ++ (vx_atM "java/lang/ArrayIndexOutOfBoundsException" ["java/lang/IndexOutOfBoundsException", "java/lang/RuntimeException", "java/lang/Exception"]).filter goodWord)
def wsX1_notThere : List Cond := .code yX1_notThere cX1_notThere 2 (some .boolean) :: ([.fieldLink RX1 17 "HandleHeapModel" "size" "[I", .fieldLink RX1 33 "HandleHeapModel" "thrown" "I", .methodLink RX1 81 yX1_notUsed, .instanceMethod yX1_notUsed, .selects RX1 yX1_notUsed yX1_notUsed, .initialized RX1, .code yX1_notUsed cX1_notUsed 2 (some .boolean), .fieldLink RX1 7 "HandleHeapModel" "used" "[Z"] ++ wsX10 ++ (vx_atM "java/lang/ArrayIndexOutOfBoundsException" ["java/lang/IndexOutOfBoundsException", "java/lang/RuntimeException", "java/lang/Exception"]).filter goodWord)
def wsX1_lock : List Cond := .code yX1_lock cX1_lock 4 (some .boolean) :: ([.fieldLink RX1 23 "HandleHeapModel" "locked" "[Z", .methodLink RX1 84 yX1_notThere, .instanceMethod yX1_notThere, .selects RX1 yX1_notThere yX1_notThere, .initialized RX1, .code yX1_notThere cX1_notThere 2 (some .boolean), .fieldLink RX1 17 "HandleHeapModel" "size" "[I", .fieldLink RX1 33 "HandleHeapModel" "thrown" "I", .methodLink RX1 81 yX1_notUsed, .instanceMethod yX1_notUsed, .selects RX1 yX1_notUsed yX1_notUsed, .code yX1_notUsed cX1_notUsed 2 (some .boolean), .fieldLink RX1 7 "HandleHeapModel" "used" "[Z"] ++ wsX10 ++ (vx_atM "java/lang/ArrayIndexOutOfBoundsException" ["java/lang/IndexOutOfBoundsException", "java/lang/RuntimeException", "java/lang/Exception"]).filter goodWord)
def wsX1_losable : List Cond := .code yX1_losable cX1_losable 4 (some .boolean) :: ([.fieldLink RX1 26 "HandleHeapModel" "losable" "[Z", .methodLink RX1 84 yX1_notThere, .instanceMethod yX1_notThere, .selects RX1 yX1_notThere yX1_notThere, .initialized RX1, .code yX1_notThere cX1_notThere 2 (some .boolean), .fieldLink RX1 17 "HandleHeapModel" "size" "[I", .fieldLink RX1 33 "HandleHeapModel" "thrown" "I", .methodLink RX1 81 yX1_notUsed, .instanceMethod yX1_notUsed, .selects RX1 yX1_notUsed yX1_notUsed, .code yX1_notUsed cX1_notUsed 2 (some .boolean), .fieldLink RX1 7 "HandleHeapModel" "used" "[Z"] ++ wsX10 ++ (vx_atM "java/lang/ArrayIndexOutOfBoundsException" ["java/lang/IndexOutOfBoundsException", "java/lang/RuntimeException", "java/lang/Exception"]).filter goodWord)
def wsX1_lose_r1 : List Cond := [Cond.methodLink RX1 84 yX1_notThere, Cond.instanceMethod yX1_notThere, Cond.selects RX1 yX1_notThere yX1_notThere, Cond.initialized RX1, Cond.code yX1_notThere cX1_notThere 2 (some .boolean), Cond.fieldLink RX1 17 "HandleHeapModel" "size" "[I", Cond.fieldLink RX1 33 "HandleHeapModel" "thrown" "I", Cond.methodLink RX1 81 yX1_notUsed, Cond.instanceMethod yX1_notUsed, Cond.selects RX1 yX1_notUsed yX1_notUsed, Cond.code yX1_notUsed cX1_notUsed 2 (some .boolean), Cond.fieldLink RX1 7 "HandleHeapModel" "used" "[Z", Cond.methodLink RX1 48 yX1_isMovable, Cond.instanceMethod yX1_isMovable, Cond.selects RX1 yX1_isMovable yX1_isMovable, Cond.code yX1_isMovable cX1_isMovable 2 (some .boolean), Cond.fieldLink RX1 20 "HandleHeapModel" "fixed" "[Z", Cond.fieldLink RX1 23 "HandleHeapModel" "locked" "[Z", Cond.methodLink RX1 37 yX1_has, Cond.instanceMethod yX1_has, Cond.selects RX1 yX1_has yX1_has, Cond.code yX1_has cX1_has 2 (some .boolean), Cond.methodLink RX1 66 yX1_loseOne, Cond.instanceMethod yX1_loseOne]
def wsX1_lose_r2 : List Cond := [Cond.selects RX1 yX1_loseOne yX1_loseOne, Cond.code yX1_loseOne cX1_loseOne 2 none, Cond.fieldLink RX1 54 "HandleHeapModel" "lost" "I"]
def wsX1_lose : List Cond := .code yX1_lose cX1_lose 2 (some .boolean) :: ((wsX1_lose_r1 ++ wsX1_lose_r2) ++ wsX10 ++ (vx_atM "java/lang/ArrayIndexOutOfBoundsException" ["java/lang/IndexOutOfBoundsException", "java/lang/RuntimeException", "java/lang/Exception"]).filter goodWord)
def wsX1_lift_r1 : List Cond := [Cond.fieldLink RX1 33 "HandleHeapModel" "thrown" "I", Cond.fieldLink RX1 13 "HandleHeapModel" "begin" "[I", Cond.fieldLink RX1 17 "HandleHeapModel" "size" "[I", Cond.fieldLink RX1 51 "HandleHeapModel" "moved" "I", Cond.methodLink RX1 81 yX1_notUsed, Cond.instanceMethod yX1_notUsed, Cond.selects RX1 yX1_notUsed yX1_notUsed, Cond.initialized RX1, Cond.code yX1_notUsed cX1_notUsed 2 (some .boolean), Cond.fieldLink RX1 7 "HandleHeapModel" "used" "[Z", Cond.methodLink RX1 48 yX1_isMovable, Cond.instanceMethod yX1_isMovable, Cond.selects RX1 yX1_isMovable yX1_isMovable, Cond.code yX1_isMovable cX1_isMovable 2 (some .boolean), Cond.fieldLink RX1 20 "HandleHeapModel" "fixed" "[Z", Cond.fieldLink RX1 23 "HandleHeapModel" "locked" "[Z", Cond.methodLink RX1 37 yX1_has, Cond.instanceMethod yX1_has, Cond.selects RX1 yX1_has yX1_has, Cond.code yX1_has cX1_has 2 (some .boolean), Cond.methodLink RX1 45 yX1_freeTo, Cond.instanceMethod yX1_freeTo, Cond.selects RX1 yX1_freeTo yX1_freeTo, Cond.code yX1_freeTo cX1_freeTo 3 (some .int)]
def wsX1_lift_r2 : List Cond := [Cond.methodLink RX1 41 yX1_firstFrom, Cond.instanceMethod yX1_firstFrom, Cond.selects RX1 yX1_firstFrom yX1_firstFrom, Cond.code yX1_firstFrom cX1_firstFrom 4 (some .int)]
def wsX1_lift : List Cond := .code yX1_lift cX1_lift 4 (some .int) :: ((wsX1_lift_r1 ++ wsX1_lift_r2) ++ wsX10 ++ (vx_atM "java/lang/ArrayIndexOutOfBoundsException" ["java/lang/IndexOutOfBoundsException", "java/lang/RuntimeException", "java/lang/Exception"]).filter goodWord)
def wsX1_slide_r1 : List Cond := [Cond.fieldLink RX1 33 "HandleHeapModel" "thrown" "I", Cond.methodLink RX1 60 yX1_slideAll, Cond.instanceMethod yX1_slideAll, Cond.selects RX1 yX1_slideAll yX1_slideAll, Cond.initialized RX1, Cond.code yX1_slideAll cX1_slideAll 3 none, Cond.fieldLink RX1 13 "HandleHeapModel" "begin" "[I", Cond.fieldLink RX1 51 "HandleHeapModel" "moved" "I", Cond.fieldLink RX1 17 "HandleHeapModel" "size" "[I", Cond.methodLink RX1 41 yX1_firstFrom, Cond.instanceMethod yX1_firstFrom, Cond.selects RX1 yX1_firstFrom yX1_firstFrom, Cond.code yX1_firstFrom cX1_firstFrom 4 (some .int), Cond.methodLink RX1 37 yX1_has, Cond.instanceMethod yX1_has, Cond.selects RX1 yX1_has yX1_has, Cond.code yX1_has cX1_has 2 (some .boolean), Cond.fieldLink RX1 7 "HandleHeapModel" "used" "[Z", Cond.methodLink RX1 48 yX1_isMovable, Cond.instanceMethod yX1_isMovable, Cond.selects RX1 yX1_isMovable yX1_isMovable, Cond.code yX1_isMovable cX1_isMovable 2 (some .boolean), Cond.fieldLink RX1 20 "HandleHeapModel" "fixed" "[Z", Cond.fieldLink RX1 23 "HandleHeapModel" "locked" "[Z"]
def wsX1_slide_r2 : List Cond := [Cond.methodLink RX1 87 yX1_greatest, Cond.instanceMethod yX1_greatest, Cond.selects RX1 yX1_greatest yX1_greatest, Cond.code yX1_greatest cX1_greatest 4 (some .int), Cond.methodLink RX1 45 yX1_freeTo, Cond.instanceMethod yX1_freeTo, Cond.selects RX1 yX1_freeTo yX1_freeTo, Cond.code yX1_freeTo cX1_freeTo 3 (some .int)]
def wsX1_slide : List Cond := .code yX1_slide cX1_slide 1 (some .int) :: ((wsX1_slide_r1 ++ wsX1_slide_r2) ++ wsX10 ++ (vx_atM "java/lang/ArrayIndexOutOfBoundsException" ["java/lang/IndexOutOfBoundsException", "java/lang/RuntimeException", "java/lang/Exception"]).filter goodWord)
def wsX1_clear_r1 : List Cond := [Cond.fieldLink RX1 33 "HandleHeapModel" "thrown" "I", Cond.methodLink RX1 87 yX1_greatest, Cond.instanceMethod yX1_greatest, Cond.selects RX1 yX1_greatest yX1_greatest, Cond.initialized RX1, Cond.code yX1_greatest cX1_greatest 4 (some .int), Cond.fieldLink RX1 17 "HandleHeapModel" "size" "[I", Cond.methodLink RX1 45 yX1_freeTo, Cond.instanceMethod yX1_freeTo, Cond.selects RX1 yX1_freeTo yX1_freeTo, Cond.code yX1_freeTo cX1_freeTo 3 (some .int), Cond.fieldLink RX1 13 "HandleHeapModel" "begin" "[I", Cond.methodLink RX1 41 yX1_firstFrom, Cond.instanceMethod yX1_firstFrom, Cond.selects RX1 yX1_firstFrom yX1_firstFrom, Cond.code yX1_firstFrom cX1_firstFrom 4 (some .int), Cond.methodLink RX1 37 yX1_has, Cond.instanceMethod yX1_has, Cond.selects RX1 yX1_has yX1_has, Cond.code yX1_has cX1_has 2 (some .boolean), Cond.fieldLink RX1 7 "HandleHeapModel" "used" "[Z", Cond.methodLink RX1 63 yX1_firstToLose, Cond.instanceMethod yX1_firstToLose, Cond.selects RX1 yX1_firstToLose yX1_firstToLose]
def wsX1_clear_r2 : List Cond := [Cond.code yX1_firstToLose cX1_firstToLose 4 (some .int), Cond.fieldLink RX1 26 "HandleHeapModel" "losable" "[Z", Cond.methodLink RX1 48 yX1_isMovable, Cond.instanceMethod yX1_isMovable, Cond.selects RX1 yX1_isMovable yX1_isMovable, Cond.code yX1_isMovable cX1_isMovable 2 (some .boolean), Cond.fieldLink RX1 20 "HandleHeapModel" "fixed" "[Z", Cond.fieldLink RX1 23 "HandleHeapModel" "locked" "[Z", Cond.methodLink RX1 66 yX1_loseOne, Cond.instanceMethod yX1_loseOne, Cond.selects RX1 yX1_loseOne yX1_loseOne, Cond.code yX1_loseOne cX1_loseOne 2 none, Cond.fieldLink RX1 54 "HandleHeapModel" "lost" "I", Cond.methodLink RX1 60 yX1_slideAll, Cond.instanceMethod yX1_slideAll, Cond.selects RX1 yX1_slideAll yX1_slideAll, Cond.code yX1_slideAll cX1_slideAll 3 none, Cond.fieldLink RX1 51 "HandleHeapModel" "moved" "I"]
def wsX1_clear : List Cond := .code yX1_clear cX1_clear 3 (some .int) :: ((wsX1_clear_r1 ++ wsX1_clear_r2) ++ wsX10 ++ (vx_atM "java/lang/ArrayIndexOutOfBoundsException" ["java/lang/IndexOutOfBoundsException", "java/lang/RuntimeException", "java/lang/Exception"]).filter goodWord)
def wsX1_where : List Cond := .code yX1_where cX1_where 2 (some .int) :: ([.fieldLink RX1 33 "HandleHeapModel" "thrown" "I", .fieldLink RX1 7 "HandleHeapModel" "used" "[Z", .fieldLink RX1 17 "HandleHeapModel" "size" "[I", .fieldLink RX1 13 "HandleHeapModel" "begin" "[I"] ++ wsX10 ++ (vx_atM "java/lang/ArrayIndexOutOfBoundsException" ["java/lang/IndexOutOfBoundsException", "java/lang/RuntimeException", "java/lang/Exception"]).filter goodWord)
def wsX1_size : List Cond := .code yX1_size cX1_size 2 (some .int) :: ([.fieldLink RX1 33 "HandleHeapModel" "thrown" "I", .fieldLink RX1 17 "HandleHeapModel" "size" "[I"] ++ wsX10 ++ (vx_atM "java/lang/ArrayIndexOutOfBoundsException" ["java/lang/IndexOutOfBoundsException", "java/lang/RuntimeException", "java/lang/Exception"]).filter goodWord)
def wsX1_put : List Cond := .code yX1_put cX1_put 5 (some .int) :: ([.fieldLink RX1 17 "HandleHeapModel" "size" "[I", .fieldLink RX1 33 "HandleHeapModel" "thrown" "I", .fieldLink RX1 30 "HandleHeapModel" "bytes" "[I", .methodLink RX1 81 yX1_notUsed, .instanceMethod yX1_notUsed, .selects RX1 yX1_notUsed yX1_notUsed, .initialized RX1, .code yX1_notUsed cX1_notUsed 2 (some .boolean), .fieldLink RX1 7 "HandleHeapModel" "used" "[Z"] ++ wsX10 ++ (vx_atM "java/lang/ArrayIndexOutOfBoundsException" ["java/lang/IndexOutOfBoundsException", "java/lang/RuntimeException", "java/lang/Exception"]).filter goodWord)
def wsX1_get : List Cond := .code yX1_get cX1_get 3 (some .int) :: ([.fieldLink RX1 17 "HandleHeapModel" "size" "[I", .fieldLink RX1 33 "HandleHeapModel" "thrown" "I", .fieldLink RX1 30 "HandleHeapModel" "bytes" "[I", .methodLink RX1 81 yX1_notUsed, .instanceMethod yX1_notUsed, .selects RX1 yX1_notUsed yX1_notUsed, .initialized RX1, .code yX1_notUsed cX1_notUsed 2 (some .boolean), .fieldLink RX1 7 "HandleHeapModel" "used" "[Z"] ++ wsX10 ++ (vx_atM "java/lang/ArrayIndexOutOfBoundsException" ["java/lang/IndexOutOfBoundsException", "java/lang/RuntimeException", "java/lang/Exception"]).filter goodWord)
def wsX1_owner : List Cond := .code yX1_owner cX1_owner 3 (some .int) :: ([.fieldLink RX1 33 "HandleHeapModel" "thrown" "I", .fieldLink RX1 13 "HandleHeapModel" "begin" "[I", .fieldLink RX1 17 "HandleHeapModel" "size" "[I", .methodLink RX1 37 yX1_has, .instanceMethod yX1_has, .selects RX1 yX1_has yX1_has, .initialized RX1, .code yX1_has cX1_has 2 (some .boolean), .fieldLink RX1 7 "HandleHeapModel" "used" "[Z"] ++ wsX10 ++ (vx_atM "java/lang/ArrayIndexOutOfBoundsException" ["java/lang/IndexOutOfBoundsException", "java/lang/RuntimeException", "java/lang/Exception"]).filter goodWord)
def wsX1_free : List Cond := .code yX1_free cX1_free 5 (some .int) :: ([.fieldLink RX1 17 "HandleHeapModel" "size" "[I", .methodLink RX1 45 yX1_freeTo, .instanceMethod yX1_freeTo, .selects RX1 yX1_freeTo yX1_freeTo, .initialized RX1, .code yX1_freeTo cX1_freeTo 3 (some .int), .fieldLink RX1 13 "HandleHeapModel" "begin" "[I", .methodLink RX1 41 yX1_firstFrom, .instanceMethod yX1_firstFrom, .selects RX1 yX1_firstFrom yX1_firstFrom, .code yX1_firstFrom cX1_firstFrom 4 (some .int), .methodLink RX1 37 yX1_has, .instanceMethod yX1_has, .selects RX1 yX1_has yX1_has, .code yX1_has cX1_has 2 (some .boolean), .fieldLink RX1 7 "HandleHeapModel" "used" "[Z"] ++ wsX10 ++ (vx_atM "java/lang/ArrayIndexOutOfBoundsException" ["java/lang/IndexOutOfBoundsException", "java/lang/RuntimeException", "java/lang/Exception"]).filter goodWord)
def wsX1_told_r1 : List Cond := [Cond.fieldLink RX1 33 "HandleHeapModel" "thrown" "I", Cond.fieldLink RX1 7 "HandleHeapModel" "used" "[Z", Cond.fieldLink RX1 17 "HandleHeapModel" "size" "[I", Cond.fieldLink RX1 51 "HandleHeapModel" "moved" "I", Cond.fieldLink RX1 54 "HandleHeapModel" "lost" "I", Cond.methodLink RX1 91 yX1_free, Cond.instanceMethod yX1_free, Cond.selects RX1 yX1_free yX1_free, Cond.initialized RX1, Cond.code yX1_free cX1_free 5 (some .int), Cond.methodLink RX1 45 yX1_freeTo, Cond.instanceMethod yX1_freeTo, Cond.selects RX1 yX1_freeTo yX1_freeTo, Cond.code yX1_freeTo cX1_freeTo 3 (some .int), Cond.fieldLink RX1 13 "HandleHeapModel" "begin" "[I", Cond.methodLink RX1 41 yX1_firstFrom, Cond.instanceMethod yX1_firstFrom, Cond.selects RX1 yX1_firstFrom yX1_firstFrom, Cond.code yX1_firstFrom cX1_firstFrom 4 (some .int), Cond.methodLink RX1 37 yX1_has, Cond.instanceMethod yX1_has, Cond.selects RX1 yX1_has yX1_has, Cond.code yX1_has cX1_has 2 (some .boolean), Cond.methodLink RX1 87 yX1_greatest]
def wsX1_told_r2 : List Cond := [Cond.instanceMethod yX1_greatest, Cond.selects RX1 yX1_greatest yX1_greatest, Cond.code yX1_greatest cX1_greatest 4 (some .int)]
def wsX1_told : List Cond := .code yX1_told cX1_told 4 (some .int) :: ((wsX1_told_r1 ++ wsX1_told_r2) ++ wsX10 ++ (vx_atM "java/lang/ArrayIndexOutOfBoundsException" ["java/lang/IndexOutOfBoundsException", "java/lang/RuntimeException", "java/lang/Exception"]).filter goodWord)
def wsJ2_newBytesLength_0f7a4 : List Cond := .code yJ2_newBytesLength_0f7a4 cJ2_newBytesLength_0f7a4 1 (some .int) :: ([.constant RJ2 20 (1073741823)])
def wsJ2_newBytesFor_77867 : List Cond := .code yJ2_newBytesFor_77867 cJ2_newBytesFor_77867 1 (some (.array .byte)) :: ([.arrayClass .byte, .methodLink RJ2 11 yJ2_newBytesLength_0f7a4, .static yJ2_newBytesLength_0f7a4, .initialized RJ2, .code yJ2_newBytesLength_0f7a4 cJ2_newBytesLength_0f7a4 1 (some .int), .constant RJ2 20 (1073741823)])
def wsJ5_init_d00df : List Cond := .code yJ5_init_d00df cJ5_init_d00df 2 none :: ([.methodLink RJ5 3 objectInit, .instanceMethod objectInit, .code objectInit ⟨#[0xb1]⟩ 1 none, .fieldLink RJ5 18 "java/lang/String" "COMPACT_STRINGS" "Z", .arrayClass .byte, .fieldLink RJ5 15 "java/lang/AbstractStringBuilder" "value" "[B", .fieldLink RJ5 22 "java/lang/AbstractStringBuilder" "coder" "B", .methodLink RJ5 26 yJ2_newBytesFor_77867, .static yJ2_newBytesFor_77867, .initialized RJ2, .code yJ2_newBytesFor_77867 cJ2_newBytesFor_77867 1 (some (.array .byte)), .methodLink RJ2 11 yJ2_newBytesLength_0f7a4, .static yJ2_newBytesLength_0f7a4, .code yJ2_newBytesLength_0f7a4 cJ2_newBytesLength_0f7a4 1 (some .int), .constant RJ2 20 (1073741823)] ++ wsJ40)
def wsJ5_length_8abf5 : List Cond := .code yJ5_length_8abf5 cJ5_length_8abf5 1 (some .int) :: ([.fieldLink RJ5 79 "java/lang/AbstractStringBuilder" "count" "I"] ++ wsJ40)
def wsJ8_hugeLength_7cf53 : List Cond := .code yJ8_hugeLength_7cf53 cJ8_hugeLength_7cf53 3 (some .int) :: ([.constant RJ8 200 (2147483639)])
def wsJ8_newLength_cabcc : List Cond := .code yJ8_newLength_cabcc cJ8_newLength_cabcc 4 (some .int) :: ([.methodLink RJ8 194 Lib.Math.max.name, .static Lib.Math.max.name, .initialized "java/lang/Math", .code Lib.Math.max.name Lib.Math.max.code 2 (some .int), .constant RJ8 200 (2147483639), .methodLink RJ8 201 yJ8_hugeLength_7cf53, .static yJ8_hugeLength_7cf53, .initialized RJ8, .code yJ8_hugeLength_7cf53 cJ8_hugeLength_7cf53 3 (some .int)])
def wsJ5_newCapacity_0f7a4 : List Cond := .code yJ5_newCapacity_0f7a4 cJ5_newCapacity_0f7a4 6 (some .int) :: ([.fieldLink RJ5 15 "java/lang/AbstractStringBuilder" "value" "[B", .fieldLink RJ5 22 "java/lang/AbstractStringBuilder" "coder" "B", .constant RJ5 39 (2147483647), .methodLink RJ5 114 yJ8_newLength_cabcc, .static yJ8_newLength_cabcc, .initialized RJ8, .code yJ8_newLength_cabcc cJ8_newLength_cabcc 4 (some .int), .methodLink RJ8 194 Lib.Math.max.name, .static Lib.Math.max.name, .initialized "java/lang/Math", .code Lib.Math.max.name Lib.Math.max.code 2 (some .int), .constant RJ8 200 (2147483639), .methodLink RJ8 201 yJ8_hugeLength_7cf53, .static yJ8_hugeLength_7cf53, .code yJ8_hugeLength_7cf53 cJ8_hugeLength_7cf53 3 (some .int)] ++ wsJ40)
def wsJ7_copyOf_9075b : List Cond := .code yJ7_copyOf_9075b cJ7_copyOf_9075b 3 (some (.array .byte)) :: ([.methodLink RJ7 310 ⟨"[B", "clone", "()Ljava/lang/Object;"⟩, .sameMethod "[B" "java/lang/Object" "clone" "()Ljava/lang/Object;", .native ⟨"java/lang/Object", "clone", "()Ljava/lang/Object;"⟩, .instanceMethod ⟨"java/lang/Object", "clone", "()Ljava/lang/Object;"⟩, .selects "[B" ⟨"[B", "clone", "()Ljava/lang/Object;"⟩ ⟨"java/lang/Object", "clone", "()Ljava/lang/Object;"⟩, .classLink RJ7 311 "[B", .arrayClass .byte, .methodLink RJ7 304 Lib.Math.min.name, .static Lib.Math.min.name, .initialized "java/lang/Math", .code Lib.Math.min.name Lib.Math.min.code 2 (some .int), .methodLink RJ7 150 arraycopyName, .native arraycopyName, .static arraycopyName, .initialized "java/lang/System"])
def wsJ5_ensureCapacityInternal_d00df_r1 : List Cond := [Cond.fieldLink RJ5 15 "java/lang/AbstractStringBuilder" "value" "[B", Cond.fieldLink RJ5 22 "java/lang/AbstractStringBuilder" "coder" "B", Cond.methodLink RJ5 104 ⟨"java/lang/AbstractStringBuilder", "newCapacity", "(I)I"⟩, Cond.sameMethod "java/lang/AbstractStringBuilder" "java/lang/AbstractStringBuilder" "newCapacity" "(I)I", Cond.selects RJ4 ⟨"java/lang/AbstractStringBuilder", "newCapacity", "(I)I"⟩ yJ5_newCapacity_0f7a4, Cond.instanceMethod yJ5_newCapacity_0f7a4, Cond.initialized RJ5, Cond.code yJ5_newCapacity_0f7a4 cJ5_newCapacity_0f7a4 6 (some .int), Cond.constant RJ5 39 (2147483647), Cond.methodLink RJ5 114 yJ8_newLength_cabcc, Cond.static yJ8_newLength_cabcc, Cond.initialized RJ8, Cond.code yJ8_newLength_cabcc cJ8_newLength_cabcc 4 (some .int), Cond.methodLink RJ8 194 Lib.Math.max.name, Cond.static Lib.Math.max.name, Cond.initialized "java/lang/Math", Cond.code Lib.Math.max.name Lib.Math.max.code 2 (some .int), Cond.constant RJ8 200 (2147483639), Cond.methodLink RJ8 201 yJ8_hugeLength_7cf53, Cond.static yJ8_hugeLength_7cf53, Cond.code yJ8_hugeLength_7cf53 cJ8_hugeLength_7cf53 3 (some .int), Cond.methodLink RJ5 108 yJ7_copyOf_9075b, Cond.static yJ7_copyOf_9075b, Cond.initialized RJ7]
def wsJ5_ensureCapacityInternal_d00df_r2 : List Cond := [Cond.code yJ7_copyOf_9075b cJ7_copyOf_9075b 3 (some (.array .byte)), Cond.methodLink RJ7 310 ⟨"[B", "clone", "()Ljava/lang/Object;"⟩, Cond.sameMethod "[B" "java/lang/Object" "clone" "()Ljava/lang/Object;", Cond.native ⟨"java/lang/Object", "clone", "()Ljava/lang/Object;"⟩, Cond.instanceMethod ⟨"java/lang/Object", "clone", "()Ljava/lang/Object;"⟩, Cond.selects "[B" ⟨"[B", "clone", "()Ljava/lang/Object;"⟩ ⟨"java/lang/Object", "clone", "()Ljava/lang/Object;"⟩, Cond.classLink RJ7 311 "[B", Cond.arrayClass .byte, Cond.methodLink RJ7 304 Lib.Math.min.name, Cond.static Lib.Math.min.name, Cond.code Lib.Math.min.name Lib.Math.min.code 2 (some .int), Cond.methodLink RJ7 150 arraycopyName, Cond.native arraycopyName, Cond.static arraycopyName, Cond.initialized "java/lang/System"]
def wsJ5_ensureCapacityInternal_d00df : List Cond := .code yJ5_ensureCapacityInternal_d00df cJ5_ensureCapacityInternal_d00df 3 none :: ((wsJ5_ensureCapacityInternal_d00df_r1 ++ wsJ5_ensureCapacityInternal_d00df_r2) ++ wsJ40)
def wsJ5_isLatin1_aae02 : List Cond := .code yJ5_isLatin1_aae02 cJ5_isLatin1_aae02 1 (some .boolean) :: ([.fieldLink RJ5 18 "java/lang/String" "COMPACT_STRINGS" "Z", .fieldLink RJ5 22 "java/lang/AbstractStringBuilder" "coder" "B"] ++ wsJ40)
def wsJ2_length_9d52b : List Cond := .code yJ2_length_9d52b cJ2_length_9d52b 1 (some .int) :: ([])
def wsJ3_checkFromIndexSize_8c36e : List Cond := .code yJ3_checkFromIndexSize_8c36e cJ3_checkFromIndexSize_8c36e 4 (some .int) :: ([])
def wsJ0_checkBoundsOffCount_cabcc : List Cond := .code yJ0_checkBoundsOffCount_cabcc cJ0_checkBoundsOffCount_cabcc 3 (some .int) :: ([.fieldLink RJ0 1053 "jdk/internal/util/Preconditions" "SIOOBE_FORMATTER" "Ljava/util/function/BiFunction;", .methodLink RJ0 1065 yJ3_checkFromIndexSize_8c36e, .static yJ3_checkFromIndexSize_8c36e, .initialized RJ3, .code yJ3_checkFromIndexSize_8c36e cJ3_checkFromIndexSize_8c36e 4 (some .int)])
def wsJ2_checkBoundsOffCount_d044e : List Cond := .code yJ2_checkBoundsOffCount_d044e cJ2_checkBoundsOffCount_d044e 3 none :: ([.methodLink RJ2 48 yJ2_length_9d52b, .static yJ2_length_9d52b, .initialized RJ2, .code yJ2_length_9d52b cJ2_length_9d52b 1 (some .int), .methodLink RJ2 419 yJ0_checkBoundsOffCount_cabcc, .static yJ0_checkBoundsOffCount_cabcc, .initialized RJ0, .code yJ0_checkBoundsOffCount_cabcc cJ0_checkBoundsOffCount_cabcc 3 (some .int), .fieldLink RJ0 1053 "jdk/internal/util/Preconditions" "SIOOBE_FORMATTER" "Ljava/util/function/BiFunction;", .methodLink RJ0 1065 yJ3_checkFromIndexSize_8c36e, .static yJ3_checkFromIndexSize_8c36e, .initialized RJ3, .code yJ3_checkFromIndexSize_8c36e cJ3_checkFromIndexSize_8c36e 4 (some .int)])
def wsJ2_putChar_b72d1 : List Cond := .code yJ2_putChar_b72d1 cJ2_putChar_b72d1 3 none :: ([.fieldLink RJ2 44 "java/lang/StringUTF16" "$assertionsDisabled" "Z", .fieldLink RJ2 59 "java/lang/StringUTF16" "HI_BYTE_SHIFT" "I", .fieldLink RJ2 63 "java/lang/StringUTF16" "LO_BYTE_SHIFT" "I", .methodLink RJ2 48 yJ2_length_9d52b, .static yJ2_length_9d52b, .initialized RJ2, .code yJ2_length_9d52b cJ2_length_9d52b 1 (some .int)])
def wsJ2_inflate_0e8fd : List Cond := .code yJ2_inflate_0e8fd cJ2_inflate_0e8fd 6 none :: ([.methodLink RJ2 173 yJ2_checkBoundsOffCount_d044e, .static yJ2_checkBoundsOffCount_d044e, .initialized RJ2, .code yJ2_checkBoundsOffCount_d044e cJ2_checkBoundsOffCount_d044e 3 none, .methodLink RJ2 48 yJ2_length_9d52b, .static yJ2_length_9d52b, .code yJ2_length_9d52b cJ2_length_9d52b 1 (some .int), .methodLink RJ2 419 yJ0_checkBoundsOffCount_cabcc, .static yJ0_checkBoundsOffCount_cabcc, .initialized RJ0, .code yJ0_checkBoundsOffCount_cabcc cJ0_checkBoundsOffCount_cabcc 3 (some .int), .fieldLink RJ0 1053 "jdk/internal/util/Preconditions" "SIOOBE_FORMATTER" "Ljava/util/function/BiFunction;", .methodLink RJ0 1065 yJ3_checkFromIndexSize_8c36e, .static yJ3_checkFromIndexSize_8c36e, .initialized RJ3, .code yJ3_checkFromIndexSize_8c36e cJ3_checkFromIndexSize_8c36e 4 (some .int), .methodLink RJ2 111 yJ2_putChar_b72d1, .static yJ2_putChar_b72d1, .code yJ2_putChar_b72d1 cJ2_putChar_b72d1 3 none, .fieldLink RJ2 44 "java/lang/StringUTF16" "$assertionsDisabled" "Z", .fieldLink RJ2 59 "java/lang/StringUTF16" "HI_BYTE_SHIFT" "I", .fieldLink RJ2 63 "java/lang/StringUTF16" "LO_BYTE_SHIFT" "I"])
def wsJ1_inflate_0e8fd_r1 : List Cond := [Cond.methodLink RJ1 240 yJ2_inflate_0e8fd, Cond.static yJ2_inflate_0e8fd, Cond.initialized RJ2, Cond.code yJ2_inflate_0e8fd cJ2_inflate_0e8fd 6 none, Cond.methodLink RJ2 173 yJ2_checkBoundsOffCount_d044e, Cond.static yJ2_checkBoundsOffCount_d044e, Cond.code yJ2_checkBoundsOffCount_d044e cJ2_checkBoundsOffCount_d044e 3 none, Cond.methodLink RJ2 48 yJ2_length_9d52b, Cond.static yJ2_length_9d52b, Cond.code yJ2_length_9d52b cJ2_length_9d52b 1 (some .int), Cond.methodLink RJ2 419 yJ0_checkBoundsOffCount_cabcc, Cond.static yJ0_checkBoundsOffCount_cabcc, Cond.initialized RJ0, Cond.code yJ0_checkBoundsOffCount_cabcc cJ0_checkBoundsOffCount_cabcc 3 (some .int), Cond.fieldLink RJ0 1053 "jdk/internal/util/Preconditions" "SIOOBE_FORMATTER" "Ljava/util/function/BiFunction;", Cond.methodLink RJ0 1065 yJ3_checkFromIndexSize_8c36e, Cond.static yJ3_checkFromIndexSize_8c36e, Cond.initialized RJ3, Cond.code yJ3_checkFromIndexSize_8c36e cJ3_checkFromIndexSize_8c36e 4 (some .int), Cond.methodLink RJ2 111 yJ2_putChar_b72d1, Cond.static yJ2_putChar_b72d1, Cond.code yJ2_putChar_b72d1 cJ2_putChar_b72d1 3 none, Cond.fieldLink RJ2 44 "java/lang/StringUTF16" "$assertionsDisabled" "Z", Cond.fieldLink RJ2 59 "java/lang/StringUTF16" "HI_BYTE_SHIFT" "I"]
def wsJ1_inflate_0e8fd_r2 : List Cond := [Cond.fieldLink RJ2 63 "java/lang/StringUTF16" "LO_BYTE_SHIFT" "I"]
def wsJ1_inflate_0e8fd : List Cond := .code yJ1_inflate_0e8fd cJ1_inflate_0e8fd 5 none :: ((wsJ1_inflate_0e8fd_r1 ++ wsJ1_inflate_0e8fd_r2))
def wsJ5_inflate_da8c8_r1 : List Cond := [Cond.fieldLink RJ5 15 "java/lang/AbstractStringBuilder" "value" "[B", Cond.fieldLink RJ5 79 "java/lang/AbstractStringBuilder" "count" "I", Cond.fieldLink RJ5 22 "java/lang/AbstractStringBuilder" "coder" "B", Cond.methodLink RJ5 83 ⟨"java/lang/AbstractStringBuilder", "isLatin1", "()Z"⟩, Cond.sameMethod "java/lang/AbstractStringBuilder" "java/lang/AbstractStringBuilder" "isLatin1" "()Z", Cond.selects RJ4 ⟨"java/lang/AbstractStringBuilder", "isLatin1", "()Z"⟩ yJ5_isLatin1_aae02, Cond.instanceMethod yJ5_isLatin1_aae02, Cond.initialized RJ5, Cond.code yJ5_isLatin1_aae02 cJ5_isLatin1_aae02 1 (some .boolean), Cond.fieldLink RJ5 18 "java/lang/String" "COMPACT_STRINGS" "Z", Cond.methodLink RJ5 26 yJ2_newBytesFor_77867, Cond.static yJ2_newBytesFor_77867, Cond.initialized RJ2, Cond.code yJ2_newBytesFor_77867 cJ2_newBytesFor_77867 1 (some (.array .byte)), Cond.arrayClass .byte, Cond.methodLink RJ2 11 yJ2_newBytesLength_0f7a4, Cond.static yJ2_newBytesLength_0f7a4, Cond.code yJ2_newBytesLength_0f7a4 cJ2_newBytesLength_0f7a4 1 (some .int), Cond.constant RJ2 20 (1073741823), Cond.methodLink RJ5 125 yJ1_inflate_0e8fd, Cond.static yJ1_inflate_0e8fd, Cond.initialized RJ1, Cond.code yJ1_inflate_0e8fd cJ1_inflate_0e8fd 5 none, Cond.methodLink RJ1 240 yJ2_inflate_0e8fd]
def wsJ5_inflate_da8c8_r2 : List Cond := [Cond.static yJ2_inflate_0e8fd, Cond.code yJ2_inflate_0e8fd cJ2_inflate_0e8fd 6 none, Cond.methodLink RJ2 173 yJ2_checkBoundsOffCount_d044e, Cond.static yJ2_checkBoundsOffCount_d044e, Cond.code yJ2_checkBoundsOffCount_d044e cJ2_checkBoundsOffCount_d044e 3 none, Cond.methodLink RJ2 48 yJ2_length_9d52b, Cond.static yJ2_length_9d52b, Cond.code yJ2_length_9d52b cJ2_length_9d52b 1 (some .int), Cond.methodLink RJ2 419 yJ0_checkBoundsOffCount_cabcc, Cond.static yJ0_checkBoundsOffCount_cabcc, Cond.initialized RJ0, Cond.code yJ0_checkBoundsOffCount_cabcc cJ0_checkBoundsOffCount_cabcc 3 (some .int), Cond.fieldLink RJ0 1053 "jdk/internal/util/Preconditions" "SIOOBE_FORMATTER" "Ljava/util/function/BiFunction;", Cond.methodLink RJ0 1065 yJ3_checkFromIndexSize_8c36e, Cond.static yJ3_checkFromIndexSize_8c36e, Cond.initialized RJ3, Cond.code yJ3_checkFromIndexSize_8c36e cJ3_checkFromIndexSize_8c36e 4 (some .int), Cond.methodLink RJ2 111 yJ2_putChar_b72d1, Cond.static yJ2_putChar_b72d1, Cond.code yJ2_putChar_b72d1 cJ2_putChar_b72d1 3 none, Cond.fieldLink RJ2 44 "java/lang/StringUTF16" "$assertionsDisabled" "Z", Cond.fieldLink RJ2 59 "java/lang/StringUTF16" "HI_BYTE_SHIFT" "I", Cond.fieldLink RJ2 63 "java/lang/StringUTF16" "LO_BYTE_SHIFT" "I"]
def wsJ5_inflate_da8c8 : List Cond := .code yJ5_inflate_da8c8 cJ5_inflate_da8c8 2 none :: ((wsJ5_inflate_da8c8_r1 ++ wsJ5_inflate_da8c8_r2) ++ wsJ40)
def wsJ3_checkFromToIndex_8c36e : List Cond := .code yJ3_checkFromToIndex_8c36e cJ3_checkFromToIndex_8c36e 4 (some .int) :: ([])
def wsJ0_checkBoundsBeginEnd_23922 : List Cond := .code yJ0_checkBoundsBeginEnd_23922 cJ0_checkBoundsBeginEnd_23922 3 none :: ([.fieldLink RJ0 1053 "jdk/internal/util/Preconditions" "SIOOBE_FORMATTER" "Ljava/util/function/BiFunction;", .methodLink RJ0 1062 yJ3_checkFromToIndex_8c36e, .static yJ3_checkFromToIndex_8c36e, .initialized RJ3, .code yJ3_checkFromToIndex_8c36e cJ3_checkFromToIndex_8c36e 4 (some .int)])
def wsJ2_checkBoundsBeginEnd_d044e : List Cond := .code yJ2_checkBoundsBeginEnd_d044e cJ2_checkBoundsBeginEnd_d044e 3 none :: ([.methodLink RJ2 48 yJ2_length_9d52b, .static yJ2_length_9d52b, .initialized RJ2, .code yJ2_length_9d52b cJ2_length_9d52b 1 (some .int), .methodLink RJ2 241 yJ0_checkBoundsBeginEnd_23922, .static yJ0_checkBoundsBeginEnd_23922, .initialized RJ0, .code yJ0_checkBoundsBeginEnd_23922 cJ0_checkBoundsBeginEnd_23922 3 none, .fieldLink RJ0 1053 "jdk/internal/util/Preconditions" "SIOOBE_FORMATTER" "Ljava/util/function/BiFunction;", .methodLink RJ0 1062 yJ3_checkFromToIndex_8c36e, .static yJ3_checkFromToIndex_8c36e, .initialized RJ3, .code yJ3_checkFromToIndex_8c36e cJ3_checkFromToIndex_8c36e 4 (some .int)])
def wsJ2_putCharsAt_cd4e5 : List Cond := .code yJ2_putCharsAt_cd4e5 cJ2_putCharsAt_cd4e5 7 (some .int) :: ([.fieldLink RJ2 44 "java/lang/StringUTF16" "$assertionsDisabled" "Z", .methodLink RJ2 96 yJ2_checkBoundsBeginEnd_d044e, .static yJ2_checkBoundsBeginEnd_d044e, .initialized RJ2, .code yJ2_checkBoundsBeginEnd_d044e cJ2_checkBoundsBeginEnd_d044e 3 none, .methodLink RJ2 48 yJ2_length_9d52b, .static yJ2_length_9d52b, .code yJ2_length_9d52b cJ2_length_9d52b 1 (some .int), .methodLink RJ2 241 yJ0_checkBoundsBeginEnd_23922, .static yJ0_checkBoundsBeginEnd_23922, .initialized RJ0, .code yJ0_checkBoundsBeginEnd_23922 cJ0_checkBoundsBeginEnd_23922 3 none, .fieldLink RJ0 1053 "jdk/internal/util/Preconditions" "SIOOBE_FORMATTER" "Ljava/util/function/BiFunction;", .methodLink RJ0 1062 yJ3_checkFromToIndex_8c36e, .static yJ3_checkFromToIndex_8c36e, .initialized RJ3, .code yJ3_checkFromToIndex_8c36e cJ3_checkFromToIndex_8c36e 4 (some .int), .methodLink RJ2 111 yJ2_putChar_b72d1, .static yJ2_putChar_b72d1, .code yJ2_putChar_b72d1 cJ2_putChar_b72d1 3 none, .fieldLink RJ2 59 "java/lang/StringUTF16" "HI_BYTE_SHIFT" "I", .fieldLink RJ2 63 "java/lang/StringUTF16" "LO_BYTE_SHIFT" "I"])
def wsJ5_appendNull_278bc_r1 : List Cond := [Cond.fieldLink RJ5 79 "java/lang/AbstractStringBuilder" "count" "I", Cond.fieldLink RJ5 15 "java/lang/AbstractStringBuilder" "value" "[B", Cond.methodLink RJ5 100 ⟨"java/lang/AbstractStringBuilder", "ensureCapacityInternal", "(I)V"⟩, Cond.sameMethod "java/lang/AbstractStringBuilder" "java/lang/AbstractStringBuilder" "ensureCapacityInternal" "(I)V", Cond.selects RJ4 ⟨"java/lang/AbstractStringBuilder", "ensureCapacityInternal", "(I)V"⟩ yJ5_ensureCapacityInternal_d00df, Cond.instanceMethod yJ5_ensureCapacityInternal_d00df, Cond.initialized RJ5, Cond.code yJ5_ensureCapacityInternal_d00df cJ5_ensureCapacityInternal_d00df 3 none, Cond.fieldLink RJ5 22 "java/lang/AbstractStringBuilder" "coder" "B", Cond.methodLink RJ5 104 ⟨"java/lang/AbstractStringBuilder", "newCapacity", "(I)I"⟩, Cond.sameMethod "java/lang/AbstractStringBuilder" "java/lang/AbstractStringBuilder" "newCapacity" "(I)I", Cond.selects RJ4 ⟨"java/lang/AbstractStringBuilder", "newCapacity", "(I)I"⟩ yJ5_newCapacity_0f7a4, Cond.instanceMethod yJ5_newCapacity_0f7a4, Cond.code yJ5_newCapacity_0f7a4 cJ5_newCapacity_0f7a4 6 (some .int), Cond.constant RJ5 39 (2147483647), Cond.methodLink RJ5 114 yJ8_newLength_cabcc, Cond.static yJ8_newLength_cabcc, Cond.initialized RJ8, Cond.code yJ8_newLength_cabcc cJ8_newLength_cabcc 4 (some .int), Cond.methodLink RJ8 194 Lib.Math.max.name, Cond.static Lib.Math.max.name, Cond.initialized "java/lang/Math", Cond.code Lib.Math.max.name Lib.Math.max.code 2 (some .int), Cond.constant RJ8 200 (2147483639)]
def wsJ5_appendNull_278bc_r2 : List Cond := [Cond.methodLink RJ8 201 yJ8_hugeLength_7cf53, Cond.static yJ8_hugeLength_7cf53, Cond.code yJ8_hugeLength_7cf53 cJ8_hugeLength_7cf53 3 (some .int), Cond.methodLink RJ5 108 yJ7_copyOf_9075b, Cond.static yJ7_copyOf_9075b, Cond.initialized RJ7, Cond.code yJ7_copyOf_9075b cJ7_copyOf_9075b 3 (some (.array .byte)), Cond.methodLink RJ7 310 ⟨"[B", "clone", "()Ljava/lang/Object;"⟩, Cond.sameMethod "[B" "java/lang/Object" "clone" "()Ljava/lang/Object;", Cond.native ⟨"java/lang/Object", "clone", "()Ljava/lang/Object;"⟩, Cond.instanceMethod ⟨"java/lang/Object", "clone", "()Ljava/lang/Object;"⟩, Cond.selects "[B" ⟨"[B", "clone", "()Ljava/lang/Object;"⟩ ⟨"java/lang/Object", "clone", "()Ljava/lang/Object;"⟩, Cond.classLink RJ7 311 "[B", Cond.arrayClass .byte, Cond.methodLink RJ7 304 Lib.Math.min.name, Cond.static Lib.Math.min.name, Cond.code Lib.Math.min.name Lib.Math.min.code 2 (some .int), Cond.methodLink RJ7 150 arraycopyName, Cond.native arraycopyName, Cond.static arraycopyName, Cond.initialized "java/lang/System", Cond.methodLink RJ5 83 ⟨"java/lang/AbstractStringBuilder", "isLatin1", "()Z"⟩, Cond.sameMethod "java/lang/AbstractStringBuilder" "java/lang/AbstractStringBuilder" "isLatin1" "()Z", Cond.selects RJ4 ⟨"java/lang/AbstractStringBuilder", "isLatin1", "()Z"⟩ yJ5_isLatin1_aae02]
def wsJ5_appendNull_278bc_r3 : List Cond := [Cond.instanceMethod yJ5_isLatin1_aae02, Cond.code yJ5_isLatin1_aae02 cJ5_isLatin1_aae02 1 (some .boolean), Cond.fieldLink RJ5 18 "java/lang/String" "COMPACT_STRINGS" "Z", Cond.methodLink RJ5 226 yJ2_putCharsAt_cd4e5, Cond.static yJ2_putCharsAt_cd4e5, Cond.initialized RJ2, Cond.code yJ2_putCharsAt_cd4e5 cJ2_putCharsAt_cd4e5 7 (some .int), Cond.fieldLink RJ2 44 "java/lang/StringUTF16" "$assertionsDisabled" "Z", Cond.methodLink RJ2 96 yJ2_checkBoundsBeginEnd_d044e, Cond.static yJ2_checkBoundsBeginEnd_d044e, Cond.code yJ2_checkBoundsBeginEnd_d044e cJ2_checkBoundsBeginEnd_d044e 3 none, Cond.methodLink RJ2 48 yJ2_length_9d52b, Cond.static yJ2_length_9d52b, Cond.code yJ2_length_9d52b cJ2_length_9d52b 1 (some .int), Cond.methodLink RJ2 241 yJ0_checkBoundsBeginEnd_23922, Cond.static yJ0_checkBoundsBeginEnd_23922, Cond.initialized RJ0, Cond.code yJ0_checkBoundsBeginEnd_23922 cJ0_checkBoundsBeginEnd_23922 3 none, Cond.fieldLink RJ0 1053 "jdk/internal/util/Preconditions" "SIOOBE_FORMATTER" "Ljava/util/function/BiFunction;", Cond.methodLink RJ0 1062 yJ3_checkFromToIndex_8c36e, Cond.static yJ3_checkFromToIndex_8c36e, Cond.initialized RJ3, Cond.code yJ3_checkFromToIndex_8c36e cJ3_checkFromToIndex_8c36e 4 (some .int), Cond.methodLink RJ2 111 yJ2_putChar_b72d1]
def wsJ5_appendNull_278bc_r4 : List Cond := [Cond.static yJ2_putChar_b72d1, Cond.code yJ2_putChar_b72d1 cJ2_putChar_b72d1 3 none, Cond.fieldLink RJ2 59 "java/lang/StringUTF16" "HI_BYTE_SHIFT" "I", Cond.fieldLink RJ2 63 "java/lang/StringUTF16" "LO_BYTE_SHIFT" "I"]
def wsJ5_appendNull_278bc : List Cond := .code yJ5_appendNull_278bc cJ5_appendNull_278bc 3 (some (.object "java/lang/AbstractStringBuilder")) :: ((wsJ5_appendNull_278bc_r1 ++ (wsJ5_appendNull_278bc_r2 ++ (wsJ5_appendNull_278bc_r3 ++ wsJ5_appendNull_278bc_r4))) ++ wsJ40)
def wsJ0_coder_7d493 : List Cond := .code yJ0_coder_7d493 cJ0_coder_7d493 1 (some .byte) :: ([.fieldLink RJ0 38 "java/lang/String" "COMPACT_STRINGS" "Z", .fieldLink RJ0 15 "java/lang/String" "coder" "B"] ++ wsJ00)
def wsJ0_length_8abf5 : List Cond := .code yJ0_length_8abf5 cJ0_length_8abf5 1 (some .int) :: ([.fieldLink RJ0 9 "java/lang/String" "value" "[B", .methodLink RJ0 335 yJ0_coder_7d493, .instanceMethod yJ0_coder_7d493, .selects RJ0 yJ0_coder_7d493 yJ0_coder_7d493, .initialized RJ0, .code yJ0_coder_7d493 cJ0_coder_7d493 1 (some .byte), .fieldLink RJ0 38 "java/lang/String" "COMPACT_STRINGS" "Z", .fieldLink RJ0 15 "java/lang/String" "coder" "B"] ++ wsJ00)
def wsJ5_inflateIfNeededFor_a7421_r1 : List Cond := [Cond.fieldLink RJ5 18 "java/lang/String" "COMPACT_STRINGS" "Z", Cond.fieldLink RJ5 22 "java/lang/AbstractStringBuilder" "coder" "B", Cond.methodLink RJ5 40 yJ0_coder_7d493, Cond.instanceMethod yJ0_coder_7d493, Cond.selects RJ0 yJ0_coder_7d493 yJ0_coder_7d493, Cond.initialized RJ0, Cond.code yJ0_coder_7d493 cJ0_coder_7d493 1 (some .byte), Cond.fieldLink RJ0 38 "java/lang/String" "COMPACT_STRINGS" "Z", Cond.fieldLink RJ0 15 "java/lang/String" "coder" "B", Cond.methodLink RJ5 195 ⟨"java/lang/AbstractStringBuilder", "inflate", "()V"⟩, Cond.sameMethod "java/lang/AbstractStringBuilder" "java/lang/AbstractStringBuilder" "inflate" "()V", Cond.selects RJ4 ⟨"java/lang/AbstractStringBuilder", "inflate", "()V"⟩ yJ5_inflate_da8c8, Cond.instanceMethod yJ5_inflate_da8c8, Cond.initialized RJ5, Cond.code yJ5_inflate_da8c8 cJ5_inflate_da8c8 2 none, Cond.fieldLink RJ5 15 "java/lang/AbstractStringBuilder" "value" "[B", Cond.fieldLink RJ5 79 "java/lang/AbstractStringBuilder" "count" "I", Cond.methodLink RJ5 83 ⟨"java/lang/AbstractStringBuilder", "isLatin1", "()Z"⟩, Cond.sameMethod "java/lang/AbstractStringBuilder" "java/lang/AbstractStringBuilder" "isLatin1" "()Z", Cond.selects RJ4 ⟨"java/lang/AbstractStringBuilder", "isLatin1", "()Z"⟩ yJ5_isLatin1_aae02, Cond.instanceMethod yJ5_isLatin1_aae02, Cond.code yJ5_isLatin1_aae02 cJ5_isLatin1_aae02 1 (some .boolean), Cond.methodLink RJ5 26 yJ2_newBytesFor_77867, Cond.static yJ2_newBytesFor_77867]
def wsJ5_inflateIfNeededFor_a7421_r2 : List Cond := [Cond.initialized RJ2, Cond.code yJ2_newBytesFor_77867 cJ2_newBytesFor_77867 1 (some (.array .byte)), Cond.arrayClass .byte, Cond.methodLink RJ2 11 yJ2_newBytesLength_0f7a4, Cond.static yJ2_newBytesLength_0f7a4, Cond.code yJ2_newBytesLength_0f7a4 cJ2_newBytesLength_0f7a4 1 (some .int), Cond.constant RJ2 20 (1073741823), Cond.methodLink RJ5 125 yJ1_inflate_0e8fd, Cond.static yJ1_inflate_0e8fd, Cond.initialized RJ1, Cond.code yJ1_inflate_0e8fd cJ1_inflate_0e8fd 5 none, Cond.methodLink RJ1 240 yJ2_inflate_0e8fd, Cond.static yJ2_inflate_0e8fd, Cond.code yJ2_inflate_0e8fd cJ2_inflate_0e8fd 6 none, Cond.methodLink RJ2 173 yJ2_checkBoundsOffCount_d044e, Cond.static yJ2_checkBoundsOffCount_d044e, Cond.code yJ2_checkBoundsOffCount_d044e cJ2_checkBoundsOffCount_d044e 3 none, Cond.methodLink RJ2 48 yJ2_length_9d52b, Cond.static yJ2_length_9d52b, Cond.code yJ2_length_9d52b cJ2_length_9d52b 1 (some .int), Cond.methodLink RJ2 419 yJ0_checkBoundsOffCount_cabcc, Cond.static yJ0_checkBoundsOffCount_cabcc, Cond.code yJ0_checkBoundsOffCount_cabcc cJ0_checkBoundsOffCount_cabcc 3 (some .int), Cond.fieldLink RJ0 1053 "jdk/internal/util/Preconditions" "SIOOBE_FORMATTER" "Ljava/util/function/BiFunction;"]
def wsJ5_inflateIfNeededFor_a7421_r3 : List Cond := [Cond.methodLink RJ0 1065 yJ3_checkFromIndexSize_8c36e, Cond.static yJ3_checkFromIndexSize_8c36e, Cond.initialized RJ3, Cond.code yJ3_checkFromIndexSize_8c36e cJ3_checkFromIndexSize_8c36e 4 (some .int), Cond.methodLink RJ2 111 yJ2_putChar_b72d1, Cond.static yJ2_putChar_b72d1, Cond.code yJ2_putChar_b72d1 cJ2_putChar_b72d1 3 none, Cond.fieldLink RJ2 44 "java/lang/StringUTF16" "$assertionsDisabled" "Z", Cond.fieldLink RJ2 59 "java/lang/StringUTF16" "HI_BYTE_SHIFT" "I", Cond.fieldLink RJ2 63 "java/lang/StringUTF16" "LO_BYTE_SHIFT" "I"]
def wsJ5_inflateIfNeededFor_a7421 : List Cond := .code yJ5_inflateIfNeededFor_a7421 cJ5_inflateIfNeededFor_a7421 2 none :: ((wsJ5_inflateIfNeededFor_a7421_r1 ++ (wsJ5_inflateIfNeededFor_a7421_r2 ++ wsJ5_inflateIfNeededFor_a7421_r3)) ++ wsJ40 ++ wsJ00)
def wsJ0_getBytes_840e7_r1 : List Cond := [Cond.fieldLink RJ0 9 "java/lang/String" "value" "[B", Cond.methodLink RJ0 212 arraycopyName, Cond.native arraycopyName, Cond.static arraycopyName, Cond.initialized "java/lang/System", Cond.methodLink RJ0 335 yJ0_coder_7d493, Cond.instanceMethod yJ0_coder_7d493, Cond.selects RJ0 yJ0_coder_7d493 yJ0_coder_7d493, Cond.initialized RJ0, Cond.code yJ0_coder_7d493 cJ0_coder_7d493 1 (some .byte), Cond.fieldLink RJ0 38 "java/lang/String" "COMPACT_STRINGS" "Z", Cond.fieldLink RJ0 15 "java/lang/String" "coder" "B", Cond.methodLink RJ0 106 yJ1_inflate_0e8fd, Cond.static yJ1_inflate_0e8fd, Cond.initialized RJ1, Cond.code yJ1_inflate_0e8fd cJ1_inflate_0e8fd 5 none, Cond.methodLink RJ1 240 yJ2_inflate_0e8fd, Cond.static yJ2_inflate_0e8fd, Cond.initialized RJ2, Cond.code yJ2_inflate_0e8fd cJ2_inflate_0e8fd 6 none, Cond.methodLink RJ2 173 yJ2_checkBoundsOffCount_d044e, Cond.static yJ2_checkBoundsOffCount_d044e, Cond.code yJ2_checkBoundsOffCount_d044e cJ2_checkBoundsOffCount_d044e 3 none, Cond.methodLink RJ2 48 yJ2_length_9d52b]
def wsJ0_getBytes_840e7_r2 : List Cond := [Cond.static yJ2_length_9d52b, Cond.code yJ2_length_9d52b cJ2_length_9d52b 1 (some .int), Cond.methodLink RJ2 419 yJ0_checkBoundsOffCount_cabcc, Cond.static yJ0_checkBoundsOffCount_cabcc, Cond.code yJ0_checkBoundsOffCount_cabcc cJ0_checkBoundsOffCount_cabcc 3 (some .int), Cond.fieldLink RJ0 1053 "jdk/internal/util/Preconditions" "SIOOBE_FORMATTER" "Ljava/util/function/BiFunction;", Cond.methodLink RJ0 1065 yJ3_checkFromIndexSize_8c36e, Cond.static yJ3_checkFromIndexSize_8c36e, Cond.initialized RJ3, Cond.code yJ3_checkFromIndexSize_8c36e cJ3_checkFromIndexSize_8c36e 4 (some .int), Cond.methodLink RJ2 111 yJ2_putChar_b72d1, Cond.static yJ2_putChar_b72d1, Cond.code yJ2_putChar_b72d1 cJ2_putChar_b72d1 3 none, Cond.fieldLink RJ2 44 "java/lang/StringUTF16" "$assertionsDisabled" "Z", Cond.fieldLink RJ2 59 "java/lang/StringUTF16" "HI_BYTE_SHIFT" "I", Cond.fieldLink RJ2 63 "java/lang/StringUTF16" "LO_BYTE_SHIFT" "I"]
def wsJ0_getBytes_840e7 : List Cond := .code yJ0_getBytes_840e7 cJ0_getBytes_840e7 4 none :: ((wsJ0_getBytes_840e7_r1 ++ wsJ0_getBytes_840e7_r2) ++ wsJ00)
def wsJ5_putStringAt_47b60_r1 : List Cond := [Cond.fieldLink RJ5 15 "java/lang/AbstractStringBuilder" "value" "[B", Cond.fieldLink RJ5 22 "java/lang/AbstractStringBuilder" "coder" "B", Cond.methodLink RJ5 397 ⟨"java/lang/AbstractStringBuilder", "inflateIfNeededFor", "(Ljava/lang/String;)V"⟩, Cond.sameMethod "java/lang/AbstractStringBuilder" "java/lang/AbstractStringBuilder" "inflateIfNeededFor" "(Ljava/lang/String;)V", Cond.selects RJ4 ⟨"java/lang/AbstractStringBuilder", "inflateIfNeededFor", "(Ljava/lang/String;)V"⟩ yJ5_inflateIfNeededFor_a7421, Cond.instanceMethod yJ5_inflateIfNeededFor_a7421, Cond.initialized RJ5, Cond.code yJ5_inflateIfNeededFor_a7421 cJ5_inflateIfNeededFor_a7421 2 none, Cond.fieldLink RJ5 18 "java/lang/String" "COMPACT_STRINGS" "Z", Cond.methodLink RJ5 40 yJ0_coder_7d493, Cond.instanceMethod yJ0_coder_7d493, Cond.selects RJ0 yJ0_coder_7d493 yJ0_coder_7d493, Cond.initialized RJ0, Cond.code yJ0_coder_7d493 cJ0_coder_7d493 1 (some .byte), Cond.fieldLink RJ0 38 "java/lang/String" "COMPACT_STRINGS" "Z", Cond.fieldLink RJ0 15 "java/lang/String" "coder" "B", Cond.methodLink RJ5 195 ⟨"java/lang/AbstractStringBuilder", "inflate", "()V"⟩, Cond.sameMethod "java/lang/AbstractStringBuilder" "java/lang/AbstractStringBuilder" "inflate" "()V", Cond.selects RJ4 ⟨"java/lang/AbstractStringBuilder", "inflate", "()V"⟩ yJ5_inflate_da8c8, Cond.instanceMethod yJ5_inflate_da8c8, Cond.code yJ5_inflate_da8c8 cJ5_inflate_da8c8 2 none, Cond.fieldLink RJ5 79 "java/lang/AbstractStringBuilder" "count" "I", Cond.methodLink RJ5 83 ⟨"java/lang/AbstractStringBuilder", "isLatin1", "()Z"⟩, Cond.sameMethod "java/lang/AbstractStringBuilder" "java/lang/AbstractStringBuilder" "isLatin1" "()Z"]
def wsJ5_putStringAt_47b60_r2 : List Cond := [Cond.selects RJ4 ⟨"java/lang/AbstractStringBuilder", "isLatin1", "()Z"⟩ yJ5_isLatin1_aae02, Cond.instanceMethod yJ5_isLatin1_aae02, Cond.code yJ5_isLatin1_aae02 cJ5_isLatin1_aae02 1 (some .boolean), Cond.methodLink RJ5 26 yJ2_newBytesFor_77867, Cond.static yJ2_newBytesFor_77867, Cond.initialized RJ2, Cond.code yJ2_newBytesFor_77867 cJ2_newBytesFor_77867 1 (some (.array .byte)), Cond.arrayClass .byte, Cond.methodLink RJ2 11 yJ2_newBytesLength_0f7a4, Cond.static yJ2_newBytesLength_0f7a4, Cond.code yJ2_newBytesLength_0f7a4 cJ2_newBytesLength_0f7a4 1 (some .int), Cond.constant RJ2 20 (1073741823), Cond.methodLink RJ5 125 yJ1_inflate_0e8fd, Cond.static yJ1_inflate_0e8fd, Cond.initialized RJ1, Cond.code yJ1_inflate_0e8fd cJ1_inflate_0e8fd 5 none, Cond.methodLink RJ1 240 yJ2_inflate_0e8fd, Cond.static yJ2_inflate_0e8fd, Cond.code yJ2_inflate_0e8fd cJ2_inflate_0e8fd 6 none, Cond.methodLink RJ2 173 yJ2_checkBoundsOffCount_d044e, Cond.static yJ2_checkBoundsOffCount_d044e, Cond.code yJ2_checkBoundsOffCount_d044e cJ2_checkBoundsOffCount_d044e 3 none, Cond.methodLink RJ2 48 yJ2_length_9d52b, Cond.static yJ2_length_9d52b]
def wsJ5_putStringAt_47b60_r3 : List Cond := [Cond.code yJ2_length_9d52b cJ2_length_9d52b 1 (some .int), Cond.methodLink RJ2 419 yJ0_checkBoundsOffCount_cabcc, Cond.static yJ0_checkBoundsOffCount_cabcc, Cond.code yJ0_checkBoundsOffCount_cabcc cJ0_checkBoundsOffCount_cabcc 3 (some .int), Cond.fieldLink RJ0 1053 "jdk/internal/util/Preconditions" "SIOOBE_FORMATTER" "Ljava/util/function/BiFunction;", Cond.methodLink RJ0 1065 yJ3_checkFromIndexSize_8c36e, Cond.static yJ3_checkFromIndexSize_8c36e, Cond.initialized RJ3, Cond.code yJ3_checkFromIndexSize_8c36e cJ3_checkFromIndexSize_8c36e 4 (some .int), Cond.methodLink RJ2 111 yJ2_putChar_b72d1, Cond.static yJ2_putChar_b72d1, Cond.code yJ2_putChar_b72d1 cJ2_putChar_b72d1 3 none, Cond.fieldLink RJ2 44 "java/lang/StringUTF16" "$assertionsDisabled" "Z", Cond.fieldLink RJ2 59 "java/lang/StringUTF16" "HI_BYTE_SHIFT" "I", Cond.fieldLink RJ2 63 "java/lang/StringUTF16" "LO_BYTE_SHIFT" "I", Cond.methodLink RJ5 399 yJ0_getBytes_840e7, Cond.instanceMethod yJ0_getBytes_840e7, Cond.selects RJ0 yJ0_getBytes_840e7 yJ0_getBytes_840e7, Cond.code yJ0_getBytes_840e7 cJ0_getBytes_840e7 4 none, Cond.fieldLink RJ0 9 "java/lang/String" "value" "[B", Cond.methodLink RJ0 212 arraycopyName, Cond.native arraycopyName, Cond.static arraycopyName, Cond.initialized "java/lang/System"]
def wsJ5_putStringAt_47b60_r4 : List Cond := [Cond.methodLink RJ0 335 yJ0_coder_7d493, Cond.methodLink RJ0 106 yJ1_inflate_0e8fd]
def wsJ5_putStringAt_47b60 : List Cond := .code yJ5_putStringAt_47b60 cJ5_putStringAt_47b60 3 none :: ((wsJ5_putStringAt_47b60_r1 ++ (wsJ5_putStringAt_47b60_r2 ++ (wsJ5_putStringAt_47b60_r3 ++ wsJ5_putStringAt_47b60_r4))) ++ wsJ40 ++ wsJ00)
def wsJ5_append_cf1ce_r1 : List Cond := [Cond.fieldLink RJ5 79 "java/lang/AbstractStringBuilder" "count" "I", Cond.methodLink RJ5 204 ⟨"java/lang/AbstractStringBuilder", "appendNull", "()Ljava/lang/AbstractStringBuilder;"⟩, Cond.sameMethod "java/lang/AbstractStringBuilder" "java/lang/AbstractStringBuilder" "appendNull" "()Ljava/lang/AbstractStringBuilder;", Cond.selects RJ4 ⟨"java/lang/AbstractStringBuilder", "appendNull", "()Ljava/lang/AbstractStringBuilder;"⟩ yJ5_appendNull_278bc, Cond.instanceMethod yJ5_appendNull_278bc, Cond.initialized RJ5, Cond.code yJ5_appendNull_278bc cJ5_appendNull_278bc 3 (some (.object "java/lang/AbstractStringBuilder")), Cond.fieldLink RJ5 15 "java/lang/AbstractStringBuilder" "value" "[B", Cond.methodLink RJ5 100 ⟨"java/lang/AbstractStringBuilder", "ensureCapacityInternal", "(I)V"⟩, Cond.sameMethod "java/lang/AbstractStringBuilder" "java/lang/AbstractStringBuilder" "ensureCapacityInternal" "(I)V", Cond.selects RJ4 ⟨"java/lang/AbstractStringBuilder", "ensureCapacityInternal", "(I)V"⟩ yJ5_ensureCapacityInternal_d00df, Cond.instanceMethod yJ5_ensureCapacityInternal_d00df, Cond.code yJ5_ensureCapacityInternal_d00df cJ5_ensureCapacityInternal_d00df 3 none, Cond.fieldLink RJ5 22 "java/lang/AbstractStringBuilder" "coder" "B", Cond.methodLink RJ5 104 ⟨"java/lang/AbstractStringBuilder", "newCapacity", "(I)I"⟩, Cond.sameMethod "java/lang/AbstractStringBuilder" "java/lang/AbstractStringBuilder" "newCapacity" "(I)I", Cond.selects RJ4 ⟨"java/lang/AbstractStringBuilder", "newCapacity", "(I)I"⟩ yJ5_newCapacity_0f7a4, Cond.instanceMethod yJ5_newCapacity_0f7a4, Cond.code yJ5_newCapacity_0f7a4 cJ5_newCapacity_0f7a4 6 (some .int), Cond.constant RJ5 39 (2147483647), Cond.methodLink RJ5 114 yJ8_newLength_cabcc, Cond.static yJ8_newLength_cabcc, Cond.initialized RJ8, Cond.code yJ8_newLength_cabcc cJ8_newLength_cabcc 4 (some .int)]
def wsJ5_append_cf1ce_r2 : List Cond := [Cond.methodLink RJ8 194 Lib.Math.max.name, Cond.static Lib.Math.max.name, Cond.initialized "java/lang/Math", Cond.code Lib.Math.max.name Lib.Math.max.code 2 (some .int), Cond.constant RJ8 200 (2147483639), Cond.methodLink RJ8 201 yJ8_hugeLength_7cf53, Cond.static yJ8_hugeLength_7cf53, Cond.code yJ8_hugeLength_7cf53 cJ8_hugeLength_7cf53 3 (some .int), Cond.methodLink RJ5 108 yJ7_copyOf_9075b, Cond.static yJ7_copyOf_9075b, Cond.initialized RJ7, Cond.code yJ7_copyOf_9075b cJ7_copyOf_9075b 3 (some (.array .byte)), Cond.methodLink RJ7 310 ⟨"[B", "clone", "()Ljava/lang/Object;"⟩, Cond.sameMethod "[B" "java/lang/Object" "clone" "()Ljava/lang/Object;", Cond.native ⟨"java/lang/Object", "clone", "()Ljava/lang/Object;"⟩, Cond.instanceMethod ⟨"java/lang/Object", "clone", "()Ljava/lang/Object;"⟩, Cond.selects "[B" ⟨"[B", "clone", "()Ljava/lang/Object;"⟩ ⟨"java/lang/Object", "clone", "()Ljava/lang/Object;"⟩, Cond.classLink RJ7 311 "[B", Cond.arrayClass .byte, Cond.methodLink RJ7 304 Lib.Math.min.name, Cond.static Lib.Math.min.name, Cond.code Lib.Math.min.name Lib.Math.min.code 2 (some .int), Cond.methodLink RJ7 150 arraycopyName, Cond.native arraycopyName]
def wsJ5_append_cf1ce_r3 : List Cond := [Cond.static arraycopyName, Cond.initialized "java/lang/System", Cond.methodLink RJ5 83 ⟨"java/lang/AbstractStringBuilder", "isLatin1", "()Z"⟩, Cond.sameMethod "java/lang/AbstractStringBuilder" "java/lang/AbstractStringBuilder" "isLatin1" "()Z", Cond.selects RJ4 ⟨"java/lang/AbstractStringBuilder", "isLatin1", "()Z"⟩ yJ5_isLatin1_aae02, Cond.instanceMethod yJ5_isLatin1_aae02, Cond.code yJ5_isLatin1_aae02 cJ5_isLatin1_aae02 1 (some .boolean), Cond.fieldLink RJ5 18 "java/lang/String" "COMPACT_STRINGS" "Z", Cond.methodLink RJ5 226 yJ2_putCharsAt_cd4e5, Cond.static yJ2_putCharsAt_cd4e5, Cond.initialized RJ2, Cond.code yJ2_putCharsAt_cd4e5 cJ2_putCharsAt_cd4e5 7 (some .int), Cond.fieldLink RJ2 44 "java/lang/StringUTF16" "$assertionsDisabled" "Z", Cond.methodLink RJ2 96 yJ2_checkBoundsBeginEnd_d044e, Cond.static yJ2_checkBoundsBeginEnd_d044e, Cond.code yJ2_checkBoundsBeginEnd_d044e cJ2_checkBoundsBeginEnd_d044e 3 none, Cond.methodLink RJ2 48 yJ2_length_9d52b, Cond.static yJ2_length_9d52b, Cond.code yJ2_length_9d52b cJ2_length_9d52b 1 (some .int), Cond.methodLink RJ2 241 yJ0_checkBoundsBeginEnd_23922, Cond.static yJ0_checkBoundsBeginEnd_23922, Cond.initialized RJ0, Cond.code yJ0_checkBoundsBeginEnd_23922 cJ0_checkBoundsBeginEnd_23922 3 none, Cond.fieldLink RJ0 1053 "jdk/internal/util/Preconditions" "SIOOBE_FORMATTER" "Ljava/util/function/BiFunction;"]
def wsJ5_append_cf1ce_r4 : List Cond := [Cond.methodLink RJ0 1062 yJ3_checkFromToIndex_8c36e, Cond.static yJ3_checkFromToIndex_8c36e, Cond.initialized RJ3, Cond.code yJ3_checkFromToIndex_8c36e cJ3_checkFromToIndex_8c36e 4 (some .int), Cond.methodLink RJ2 111 yJ2_putChar_b72d1, Cond.static yJ2_putChar_b72d1, Cond.code yJ2_putChar_b72d1 cJ2_putChar_b72d1 3 none, Cond.fieldLink RJ2 59 "java/lang/StringUTF16" "HI_BYTE_SHIFT" "I", Cond.fieldLink RJ2 63 "java/lang/StringUTF16" "LO_BYTE_SHIFT" "I", Cond.methodLink RJ5 32 yJ0_length_8abf5, Cond.instanceMethod yJ0_length_8abf5, Cond.selects RJ0 yJ0_length_8abf5 yJ0_length_8abf5, Cond.code yJ0_length_8abf5 cJ0_length_8abf5 1 (some .int), Cond.fieldLink RJ0 9 "java/lang/String" "value" "[B", Cond.methodLink RJ0 335 yJ0_coder_7d493, Cond.instanceMethod yJ0_coder_7d493, Cond.selects RJ0 yJ0_coder_7d493 yJ0_coder_7d493, Cond.code yJ0_coder_7d493 cJ0_coder_7d493 1 (some .byte), Cond.fieldLink RJ0 38 "java/lang/String" "COMPACT_STRINGS" "Z", Cond.fieldLink RJ0 15 "java/lang/String" "coder" "B", Cond.methodLink RJ5 208 ⟨"java/lang/AbstractStringBuilder", "putStringAt", "(ILjava/lang/String;)V"⟩, Cond.sameMethod "java/lang/AbstractStringBuilder" "java/lang/AbstractStringBuilder" "putStringAt" "(ILjava/lang/String;)V", Cond.selects RJ4 ⟨"java/lang/AbstractStringBuilder", "putStringAt", "(ILjava/lang/String;)V"⟩ yJ5_putStringAt_47b60, Cond.instanceMethod yJ5_putStringAt_47b60]
def wsJ5_append_cf1ce_r5 : List Cond := [Cond.code yJ5_putStringAt_47b60 cJ5_putStringAt_47b60 3 none, Cond.methodLink RJ5 397 ⟨"java/lang/AbstractStringBuilder", "inflateIfNeededFor", "(Ljava/lang/String;)V"⟩, Cond.sameMethod "java/lang/AbstractStringBuilder" "java/lang/AbstractStringBuilder" "inflateIfNeededFor" "(Ljava/lang/String;)V", Cond.selects RJ4 ⟨"java/lang/AbstractStringBuilder", "inflateIfNeededFor", "(Ljava/lang/String;)V"⟩ yJ5_inflateIfNeededFor_a7421, Cond.instanceMethod yJ5_inflateIfNeededFor_a7421, Cond.code yJ5_inflateIfNeededFor_a7421 cJ5_inflateIfNeededFor_a7421 2 none, Cond.methodLink RJ5 40 yJ0_coder_7d493, Cond.methodLink RJ5 195 ⟨"java/lang/AbstractStringBuilder", "inflate", "()V"⟩, Cond.sameMethod "java/lang/AbstractStringBuilder" "java/lang/AbstractStringBuilder" "inflate" "()V", Cond.selects RJ4 ⟨"java/lang/AbstractStringBuilder", "inflate", "()V"⟩ yJ5_inflate_da8c8, Cond.instanceMethod yJ5_inflate_da8c8, Cond.code yJ5_inflate_da8c8 cJ5_inflate_da8c8 2 none, Cond.methodLink RJ5 26 yJ2_newBytesFor_77867, Cond.static yJ2_newBytesFor_77867, Cond.code yJ2_newBytesFor_77867 cJ2_newBytesFor_77867 1 (some (.array .byte)), Cond.methodLink RJ2 11 yJ2_newBytesLength_0f7a4, Cond.static yJ2_newBytesLength_0f7a4, Cond.code yJ2_newBytesLength_0f7a4 cJ2_newBytesLength_0f7a4 1 (some .int), Cond.constant RJ2 20 (1073741823), Cond.methodLink RJ5 125 yJ1_inflate_0e8fd, Cond.static yJ1_inflate_0e8fd, Cond.initialized RJ1, Cond.code yJ1_inflate_0e8fd cJ1_inflate_0e8fd 5 none, Cond.methodLink RJ1 240 yJ2_inflate_0e8fd]
def wsJ5_append_cf1ce_r6 : List Cond := [Cond.static yJ2_inflate_0e8fd, Cond.code yJ2_inflate_0e8fd cJ2_inflate_0e8fd 6 none, Cond.methodLink RJ2 173 yJ2_checkBoundsOffCount_d044e, Cond.static yJ2_checkBoundsOffCount_d044e, Cond.code yJ2_checkBoundsOffCount_d044e cJ2_checkBoundsOffCount_d044e 3 none, Cond.methodLink RJ2 419 yJ0_checkBoundsOffCount_cabcc, Cond.static yJ0_checkBoundsOffCount_cabcc, Cond.code yJ0_checkBoundsOffCount_cabcc cJ0_checkBoundsOffCount_cabcc 3 (some .int), Cond.methodLink RJ0 1065 yJ3_checkFromIndexSize_8c36e, Cond.static yJ3_checkFromIndexSize_8c36e, Cond.code yJ3_checkFromIndexSize_8c36e cJ3_checkFromIndexSize_8c36e 4 (some .int), Cond.methodLink RJ5 399 yJ0_getBytes_840e7, Cond.instanceMethod yJ0_getBytes_840e7, Cond.selects RJ0 yJ0_getBytes_840e7 yJ0_getBytes_840e7, Cond.code yJ0_getBytes_840e7 cJ0_getBytes_840e7 4 none, Cond.methodLink RJ0 212 arraycopyName, Cond.methodLink RJ0 106 yJ1_inflate_0e8fd]
def wsJ5_append_cf1ce : List Cond := .code yJ5_append_cf1ce cJ5_append_cf1ce 3 (some (.object "java/lang/AbstractStringBuilder")) :: ((wsJ5_append_cf1ce_r1 ++ (wsJ5_append_cf1ce_r2 ++ (wsJ5_append_cf1ce_r3 ++ (wsJ5_append_cf1ce_r4 ++ (wsJ5_append_cf1ce_r5 ++ wsJ5_append_cf1ce_r6))))) ++ wsJ40 ++ wsJ00)
def wsJ6_stringSize_0f7a4 : List Cond := .code yJ6_stringSize_0f7a4 cJ6_stringSize_0f7a4 4 (some .int) :: ([])
def wsJ6_getChars_ba4f3 : List Cond := .code yJ6_getChars_ba4f3 cJ6_getChars_ba4f3 7 (some .int) :: ([.fieldLink RJ6 83 "java/lang/Integer" "DigitOnes" "[B", .fieldLink RJ6 87 "java/lang/Integer" "DigitTens" "[B"])
def wsJ2_getChars_ba4f3 : List Cond := .code yJ2_getChars_ba4f3 cJ2_getChars_ba4f3 7 (some .int) :: ([.fieldLink RJ2 403 "java/lang/Integer" "DigitOnes" "[B", .fieldLink RJ2 407 "java/lang/Integer" "DigitTens" "[B", .methodLink RJ2 111 yJ2_putChar_b72d1, .static yJ2_putChar_b72d1, .initialized RJ2, .code yJ2_putChar_b72d1 cJ2_putChar_b72d1 3 none, .fieldLink RJ2 44 "java/lang/StringUTF16" "$assertionsDisabled" "Z", .fieldLink RJ2 59 "java/lang/StringUTF16" "HI_BYTE_SHIFT" "I", .fieldLink RJ2 63 "java/lang/StringUTF16" "LO_BYTE_SHIFT" "I", .methodLink RJ2 48 yJ2_length_9d52b, .static yJ2_length_9d52b, .code yJ2_length_9d52b cJ2_length_9d52b 1 (some .int)])
def wsJ2_getChars_46870_r1 : List Cond := [Cond.fieldLink RJ2 44 "java/lang/StringUTF16" "$assertionsDisabled" "Z", Cond.methodLink RJ2 96 yJ2_checkBoundsBeginEnd_d044e, Cond.static yJ2_checkBoundsBeginEnd_d044e, Cond.initialized RJ2, Cond.code yJ2_checkBoundsBeginEnd_d044e cJ2_checkBoundsBeginEnd_d044e 3 none, Cond.methodLink RJ2 48 yJ2_length_9d52b, Cond.static yJ2_length_9d52b, Cond.code yJ2_length_9d52b cJ2_length_9d52b 1 (some .int), Cond.methodLink RJ2 241 yJ0_checkBoundsBeginEnd_23922, Cond.static yJ0_checkBoundsBeginEnd_23922, Cond.initialized RJ0, Cond.code yJ0_checkBoundsBeginEnd_23922 cJ0_checkBoundsBeginEnd_23922 3 none, Cond.fieldLink RJ0 1053 "jdk/internal/util/Preconditions" "SIOOBE_FORMATTER" "Ljava/util/function/BiFunction;", Cond.methodLink RJ0 1062 yJ3_checkFromToIndex_8c36e, Cond.static yJ3_checkFromToIndex_8c36e, Cond.initialized RJ3, Cond.code yJ3_checkFromToIndex_8c36e cJ3_checkFromToIndex_8c36e 4 (some .int), Cond.methodLink RJ2 393 yJ2_getChars_ba4f3, Cond.static yJ2_getChars_ba4f3, Cond.code yJ2_getChars_ba4f3 cJ2_getChars_ba4f3 7 (some .int), Cond.fieldLink RJ2 403 "java/lang/Integer" "DigitOnes" "[B", Cond.fieldLink RJ2 407 "java/lang/Integer" "DigitTens" "[B", Cond.methodLink RJ2 111 yJ2_putChar_b72d1, Cond.static yJ2_putChar_b72d1]
def wsJ2_getChars_46870_r2 : List Cond := [Cond.code yJ2_putChar_b72d1 cJ2_putChar_b72d1 3 none, Cond.fieldLink RJ2 59 "java/lang/StringUTF16" "HI_BYTE_SHIFT" "I", Cond.fieldLink RJ2 63 "java/lang/StringUTF16" "LO_BYTE_SHIFT" "I"]
def wsJ2_getChars_46870 : List Cond := .code yJ2_getChars_46870 cJ2_getChars_46870 5 (some .int) :: ((wsJ2_getChars_46870_r1 ++ wsJ2_getChars_46870_r2))
def wsJ5_append_c97b9_r1 : List Cond := [Cond.fieldLink RJ5 79 "java/lang/AbstractStringBuilder" "count" "I", Cond.fieldLink RJ5 15 "java/lang/AbstractStringBuilder" "value" "[B", Cond.methodLink RJ5 245 yJ6_stringSize_0f7a4, Cond.static yJ6_stringSize_0f7a4, Cond.initialized RJ6, Cond.code yJ6_stringSize_0f7a4 cJ6_stringSize_0f7a4 4 (some .int), Cond.methodLink RJ5 100 ⟨"java/lang/AbstractStringBuilder", "ensureCapacityInternal", "(I)V"⟩, Cond.sameMethod "java/lang/AbstractStringBuilder" "java/lang/AbstractStringBuilder" "ensureCapacityInternal" "(I)V", Cond.selects RJ4 ⟨"java/lang/AbstractStringBuilder", "ensureCapacityInternal", "(I)V"⟩ yJ5_ensureCapacityInternal_d00df, Cond.instanceMethod yJ5_ensureCapacityInternal_d00df, Cond.initialized RJ5, Cond.code yJ5_ensureCapacityInternal_d00df cJ5_ensureCapacityInternal_d00df 3 none, Cond.fieldLink RJ5 22 "java/lang/AbstractStringBuilder" "coder" "B", Cond.methodLink RJ5 104 ⟨"java/lang/AbstractStringBuilder", "newCapacity", "(I)I"⟩, Cond.sameMethod "java/lang/AbstractStringBuilder" "java/lang/AbstractStringBuilder" "newCapacity" "(I)I", Cond.selects RJ4 ⟨"java/lang/AbstractStringBuilder", "newCapacity", "(I)I"⟩ yJ5_newCapacity_0f7a4, Cond.instanceMethod yJ5_newCapacity_0f7a4, Cond.code yJ5_newCapacity_0f7a4 cJ5_newCapacity_0f7a4 6 (some .int), Cond.constant RJ5 39 (2147483647), Cond.methodLink RJ5 114 yJ8_newLength_cabcc, Cond.static yJ8_newLength_cabcc, Cond.initialized RJ8, Cond.code yJ8_newLength_cabcc cJ8_newLength_cabcc 4 (some .int), Cond.methodLink RJ8 194 Lib.Math.max.name]
def wsJ5_append_c97b9_r2 : List Cond := [Cond.static Lib.Math.max.name, Cond.initialized "java/lang/Math", Cond.code Lib.Math.max.name Lib.Math.max.code 2 (some .int), Cond.constant RJ8 200 (2147483639), Cond.methodLink RJ8 201 yJ8_hugeLength_7cf53, Cond.static yJ8_hugeLength_7cf53, Cond.code yJ8_hugeLength_7cf53 cJ8_hugeLength_7cf53 3 (some .int), Cond.methodLink RJ5 108 yJ7_copyOf_9075b, Cond.static yJ7_copyOf_9075b, Cond.initialized RJ7, Cond.code yJ7_copyOf_9075b cJ7_copyOf_9075b 3 (some (.array .byte)), Cond.methodLink RJ7 310 ⟨"[B", "clone", "()Ljava/lang/Object;"⟩, Cond.sameMethod "[B" "java/lang/Object" "clone" "()Ljava/lang/Object;", Cond.native ⟨"java/lang/Object", "clone", "()Ljava/lang/Object;"⟩, Cond.instanceMethod ⟨"java/lang/Object", "clone", "()Ljava/lang/Object;"⟩, Cond.selects "[B" ⟨"[B", "clone", "()Ljava/lang/Object;"⟩ ⟨"java/lang/Object", "clone", "()Ljava/lang/Object;"⟩, Cond.classLink RJ7 311 "[B", Cond.arrayClass .byte, Cond.methodLink RJ7 304 Lib.Math.min.name, Cond.static Lib.Math.min.name, Cond.code Lib.Math.min.name Lib.Math.min.code 2 (some .int), Cond.methodLink RJ7 150 arraycopyName, Cond.native arraycopyName, Cond.static arraycopyName]
def wsJ5_append_c97b9_r3 : List Cond := [Cond.initialized "java/lang/System", Cond.methodLink RJ5 83 ⟨"java/lang/AbstractStringBuilder", "isLatin1", "()Z"⟩, Cond.sameMethod "java/lang/AbstractStringBuilder" "java/lang/AbstractStringBuilder" "isLatin1" "()Z", Cond.selects RJ4 ⟨"java/lang/AbstractStringBuilder", "isLatin1", "()Z"⟩ yJ5_isLatin1_aae02, Cond.instanceMethod yJ5_isLatin1_aae02, Cond.code yJ5_isLatin1_aae02 cJ5_isLatin1_aae02 1 (some .boolean), Cond.fieldLink RJ5 18 "java/lang/String" "COMPACT_STRINGS" "Z", Cond.methodLink RJ5 248 yJ6_getChars_ba4f3, Cond.static yJ6_getChars_ba4f3, Cond.code yJ6_getChars_ba4f3 cJ6_getChars_ba4f3 7 (some .int), Cond.fieldLink RJ6 83 "java/lang/Integer" "DigitOnes" "[B", Cond.fieldLink RJ6 87 "java/lang/Integer" "DigitTens" "[B", Cond.methodLink RJ5 251 yJ2_getChars_46870, Cond.static yJ2_getChars_46870, Cond.initialized RJ2, Cond.code yJ2_getChars_46870 cJ2_getChars_46870 5 (some .int), Cond.fieldLink RJ2 44 "java/lang/StringUTF16" "$assertionsDisabled" "Z", Cond.methodLink RJ2 96 yJ2_checkBoundsBeginEnd_d044e, Cond.static yJ2_checkBoundsBeginEnd_d044e, Cond.code yJ2_checkBoundsBeginEnd_d044e cJ2_checkBoundsBeginEnd_d044e 3 none, Cond.methodLink RJ2 48 yJ2_length_9d52b, Cond.static yJ2_length_9d52b, Cond.code yJ2_length_9d52b cJ2_length_9d52b 1 (some .int), Cond.methodLink RJ2 241 yJ0_checkBoundsBeginEnd_23922]
def wsJ5_append_c97b9_r4 : List Cond := [Cond.static yJ0_checkBoundsBeginEnd_23922, Cond.initialized RJ0, Cond.code yJ0_checkBoundsBeginEnd_23922 cJ0_checkBoundsBeginEnd_23922 3 none, Cond.fieldLink RJ0 1053 "jdk/internal/util/Preconditions" "SIOOBE_FORMATTER" "Ljava/util/function/BiFunction;", Cond.methodLink RJ0 1062 yJ3_checkFromToIndex_8c36e, Cond.static yJ3_checkFromToIndex_8c36e, Cond.initialized RJ3, Cond.code yJ3_checkFromToIndex_8c36e cJ3_checkFromToIndex_8c36e 4 (some .int), Cond.methodLink RJ2 393 yJ2_getChars_ba4f3, Cond.static yJ2_getChars_ba4f3, Cond.code yJ2_getChars_ba4f3 cJ2_getChars_ba4f3 7 (some .int), Cond.fieldLink RJ2 403 "java/lang/Integer" "DigitOnes" "[B", Cond.fieldLink RJ2 407 "java/lang/Integer" "DigitTens" "[B", Cond.methodLink RJ2 111 yJ2_putChar_b72d1, Cond.static yJ2_putChar_b72d1, Cond.code yJ2_putChar_b72d1 cJ2_putChar_b72d1 3 none, Cond.fieldLink RJ2 59 "java/lang/StringUTF16" "HI_BYTE_SHIFT" "I", Cond.fieldLink RJ2 63 "java/lang/StringUTF16" "LO_BYTE_SHIFT" "I"]
def wsJ5_append_c97b9 : List Cond := .code yJ5_append_c97b9 cJ5_append_c97b9 4 (some (.object "java/lang/AbstractStringBuilder")) :: ((wsJ5_append_c97b9_r1 ++ (wsJ5_append_c97b9_r2 ++ (wsJ5_append_c97b9_r3 ++ wsJ5_append_c97b9_r4))) ++ wsJ40)
def wsJ5_getValue_6d5f1 : List Cond := .code yJ5_getValue_6d5f1 cJ5_getValue_6d5f1 1 (some (.array .byte)) :: ([.fieldLink RJ5 15 "java/lang/AbstractStringBuilder" "value" "[B"] ++ wsJ40)
def wsJ4_init_da8c8 : List Cond := .code yJ4_init_da8c8 cJ4_init_da8c8 1 none :: ([.methodLink RJ4 1 yJ5_init_d00df, .instanceMethod yJ5_init_d00df, .initialized RJ5, .code yJ5_init_d00df cJ5_init_d00df 2 none, .methodLink RJ5 3 objectInit, .instanceMethod objectInit, .code objectInit ⟨#[0xb1]⟩ 1 none, .fieldLink RJ5 18 "java/lang/String" "COMPACT_STRINGS" "Z", .arrayClass .byte, .fieldLink RJ5 15 "java/lang/AbstractStringBuilder" "value" "[B", .fieldLink RJ5 22 "java/lang/AbstractStringBuilder" "coder" "B", .methodLink RJ5 26 yJ2_newBytesFor_77867, .static yJ2_newBytesFor_77867, .initialized RJ2, .code yJ2_newBytesFor_77867 cJ2_newBytesFor_77867 1 (some (.array .byte)), .methodLink RJ2 11 yJ2_newBytesLength_0f7a4, .static yJ2_newBytesLength_0f7a4, .code yJ2_newBytesLength_0f7a4 cJ2_newBytesLength_0f7a4 1 (some .int), .constant RJ2 20 (1073741823)] ++ wsJ40)
def wsJ4_append_15ec4_r1 : List Cond := [Cond.methodLink RJ4 29 yJ5_append_cf1ce, Cond.sameMethod "java/lang/AbstractStringBuilder" "java/lang/AbstractStringBuilder" "append" "(Ljava/lang/String;)Ljava/lang/AbstractStringBuilder;", Cond.superclass RJ4 RJ5, Cond.instanceMethod yJ5_append_cf1ce, Cond.initialized RJ5, Cond.code yJ5_append_cf1ce cJ5_append_cf1ce 3 (some (.object "java/lang/AbstractStringBuilder")), Cond.fieldLink RJ5 79 "java/lang/AbstractStringBuilder" "count" "I", Cond.methodLink RJ5 204 ⟨"java/lang/AbstractStringBuilder", "appendNull", "()Ljava/lang/AbstractStringBuilder;"⟩, Cond.sameMethod "java/lang/AbstractStringBuilder" "java/lang/AbstractStringBuilder" "appendNull" "()Ljava/lang/AbstractStringBuilder;", Cond.selects RJ4 ⟨"java/lang/AbstractStringBuilder", "appendNull", "()Ljava/lang/AbstractStringBuilder;"⟩ yJ5_appendNull_278bc, Cond.instanceMethod yJ5_appendNull_278bc, Cond.code yJ5_appendNull_278bc cJ5_appendNull_278bc 3 (some (.object "java/lang/AbstractStringBuilder")), Cond.fieldLink RJ5 15 "java/lang/AbstractStringBuilder" "value" "[B", Cond.methodLink RJ5 100 ⟨"java/lang/AbstractStringBuilder", "ensureCapacityInternal", "(I)V"⟩, Cond.sameMethod "java/lang/AbstractStringBuilder" "java/lang/AbstractStringBuilder" "ensureCapacityInternal" "(I)V", Cond.selects RJ4 ⟨"java/lang/AbstractStringBuilder", "ensureCapacityInternal", "(I)V"⟩ yJ5_ensureCapacityInternal_d00df, Cond.instanceMethod yJ5_ensureCapacityInternal_d00df, Cond.code yJ5_ensureCapacityInternal_d00df cJ5_ensureCapacityInternal_d00df 3 none, Cond.fieldLink RJ5 22 "java/lang/AbstractStringBuilder" "coder" "B", Cond.methodLink RJ5 104 ⟨"java/lang/AbstractStringBuilder", "newCapacity", "(I)I"⟩, Cond.sameMethod "java/lang/AbstractStringBuilder" "java/lang/AbstractStringBuilder" "newCapacity" "(I)I", Cond.selects RJ4 ⟨"java/lang/AbstractStringBuilder", "newCapacity", "(I)I"⟩ yJ5_newCapacity_0f7a4, Cond.instanceMethod yJ5_newCapacity_0f7a4, Cond.code yJ5_newCapacity_0f7a4 cJ5_newCapacity_0f7a4 6 (some .int)]
def wsJ4_append_15ec4_r2 : List Cond := [Cond.constant RJ5 39 (2147483647), Cond.methodLink RJ5 114 yJ8_newLength_cabcc, Cond.static yJ8_newLength_cabcc, Cond.initialized RJ8, Cond.code yJ8_newLength_cabcc cJ8_newLength_cabcc 4 (some .int), Cond.methodLink RJ8 194 Lib.Math.max.name, Cond.static Lib.Math.max.name, Cond.initialized "java/lang/Math", Cond.code Lib.Math.max.name Lib.Math.max.code 2 (some .int), Cond.constant RJ8 200 (2147483639), Cond.methodLink RJ8 201 yJ8_hugeLength_7cf53, Cond.static yJ8_hugeLength_7cf53, Cond.code yJ8_hugeLength_7cf53 cJ8_hugeLength_7cf53 3 (some .int), Cond.methodLink RJ5 108 yJ7_copyOf_9075b, Cond.static yJ7_copyOf_9075b, Cond.initialized RJ7, Cond.code yJ7_copyOf_9075b cJ7_copyOf_9075b 3 (some (.array .byte)), Cond.methodLink RJ7 310 ⟨"[B", "clone", "()Ljava/lang/Object;"⟩, Cond.sameMethod "[B" "java/lang/Object" "clone" "()Ljava/lang/Object;", Cond.native ⟨"java/lang/Object", "clone", "()Ljava/lang/Object;"⟩, Cond.instanceMethod ⟨"java/lang/Object", "clone", "()Ljava/lang/Object;"⟩, Cond.selects "[B" ⟨"[B", "clone", "()Ljava/lang/Object;"⟩ ⟨"java/lang/Object", "clone", "()Ljava/lang/Object;"⟩, Cond.classLink RJ7 311 "[B", Cond.arrayClass .byte]
def wsJ4_append_15ec4_r3 : List Cond := [Cond.methodLink RJ7 304 Lib.Math.min.name, Cond.static Lib.Math.min.name, Cond.code Lib.Math.min.name Lib.Math.min.code 2 (some .int), Cond.methodLink RJ7 150 arraycopyName, Cond.native arraycopyName, Cond.static arraycopyName, Cond.initialized "java/lang/System", Cond.methodLink RJ5 83 ⟨"java/lang/AbstractStringBuilder", "isLatin1", "()Z"⟩, Cond.sameMethod "java/lang/AbstractStringBuilder" "java/lang/AbstractStringBuilder" "isLatin1" "()Z", Cond.selects RJ4 ⟨"java/lang/AbstractStringBuilder", "isLatin1", "()Z"⟩ yJ5_isLatin1_aae02, Cond.instanceMethod yJ5_isLatin1_aae02, Cond.code yJ5_isLatin1_aae02 cJ5_isLatin1_aae02 1 (some .boolean), Cond.fieldLink RJ5 18 "java/lang/String" "COMPACT_STRINGS" "Z", Cond.methodLink RJ5 226 yJ2_putCharsAt_cd4e5, Cond.static yJ2_putCharsAt_cd4e5, Cond.initialized RJ2, Cond.code yJ2_putCharsAt_cd4e5 cJ2_putCharsAt_cd4e5 7 (some .int), Cond.fieldLink RJ2 44 "java/lang/StringUTF16" "$assertionsDisabled" "Z", Cond.methodLink RJ2 96 yJ2_checkBoundsBeginEnd_d044e, Cond.static yJ2_checkBoundsBeginEnd_d044e, Cond.code yJ2_checkBoundsBeginEnd_d044e cJ2_checkBoundsBeginEnd_d044e 3 none, Cond.methodLink RJ2 48 yJ2_length_9d52b, Cond.static yJ2_length_9d52b, Cond.code yJ2_length_9d52b cJ2_length_9d52b 1 (some .int)]
def wsJ4_append_15ec4_r4 : List Cond := [Cond.methodLink RJ2 241 yJ0_checkBoundsBeginEnd_23922, Cond.static yJ0_checkBoundsBeginEnd_23922, Cond.initialized RJ0, Cond.code yJ0_checkBoundsBeginEnd_23922 cJ0_checkBoundsBeginEnd_23922 3 none, Cond.fieldLink RJ0 1053 "jdk/internal/util/Preconditions" "SIOOBE_FORMATTER" "Ljava/util/function/BiFunction;", Cond.methodLink RJ0 1062 yJ3_checkFromToIndex_8c36e, Cond.static yJ3_checkFromToIndex_8c36e, Cond.initialized RJ3, Cond.code yJ3_checkFromToIndex_8c36e cJ3_checkFromToIndex_8c36e 4 (some .int), Cond.methodLink RJ2 111 yJ2_putChar_b72d1, Cond.static yJ2_putChar_b72d1, Cond.code yJ2_putChar_b72d1 cJ2_putChar_b72d1 3 none, Cond.fieldLink RJ2 59 "java/lang/StringUTF16" "HI_BYTE_SHIFT" "I", Cond.fieldLink RJ2 63 "java/lang/StringUTF16" "LO_BYTE_SHIFT" "I", Cond.methodLink RJ5 32 yJ0_length_8abf5, Cond.instanceMethod yJ0_length_8abf5, Cond.selects RJ0 yJ0_length_8abf5 yJ0_length_8abf5, Cond.code yJ0_length_8abf5 cJ0_length_8abf5 1 (some .int), Cond.fieldLink RJ0 9 "java/lang/String" "value" "[B", Cond.methodLink RJ0 335 yJ0_coder_7d493, Cond.instanceMethod yJ0_coder_7d493, Cond.selects RJ0 yJ0_coder_7d493 yJ0_coder_7d493, Cond.code yJ0_coder_7d493 cJ0_coder_7d493 1 (some .byte), Cond.fieldLink RJ0 38 "java/lang/String" "COMPACT_STRINGS" "Z"]
def wsJ4_append_15ec4_r5 : List Cond := [Cond.fieldLink RJ0 15 "java/lang/String" "coder" "B", Cond.methodLink RJ5 208 ⟨"java/lang/AbstractStringBuilder", "putStringAt", "(ILjava/lang/String;)V"⟩, Cond.sameMethod "java/lang/AbstractStringBuilder" "java/lang/AbstractStringBuilder" "putStringAt" "(ILjava/lang/String;)V", Cond.selects RJ4 ⟨"java/lang/AbstractStringBuilder", "putStringAt", "(ILjava/lang/String;)V"⟩ yJ5_putStringAt_47b60, Cond.instanceMethod yJ5_putStringAt_47b60, Cond.code yJ5_putStringAt_47b60 cJ5_putStringAt_47b60 3 none, Cond.methodLink RJ5 397 ⟨"java/lang/AbstractStringBuilder", "inflateIfNeededFor", "(Ljava/lang/String;)V"⟩, Cond.sameMethod "java/lang/AbstractStringBuilder" "java/lang/AbstractStringBuilder" "inflateIfNeededFor" "(Ljava/lang/String;)V", Cond.selects RJ4 ⟨"java/lang/AbstractStringBuilder", "inflateIfNeededFor", "(Ljava/lang/String;)V"⟩ yJ5_inflateIfNeededFor_a7421, Cond.instanceMethod yJ5_inflateIfNeededFor_a7421, Cond.code yJ5_inflateIfNeededFor_a7421 cJ5_inflateIfNeededFor_a7421 2 none, Cond.methodLink RJ5 40 yJ0_coder_7d493, Cond.methodLink RJ5 195 ⟨"java/lang/AbstractStringBuilder", "inflate", "()V"⟩, Cond.sameMethod "java/lang/AbstractStringBuilder" "java/lang/AbstractStringBuilder" "inflate" "()V", Cond.selects RJ4 ⟨"java/lang/AbstractStringBuilder", "inflate", "()V"⟩ yJ5_inflate_da8c8, Cond.instanceMethod yJ5_inflate_da8c8, Cond.code yJ5_inflate_da8c8 cJ5_inflate_da8c8 2 none, Cond.methodLink RJ5 26 yJ2_newBytesFor_77867, Cond.static yJ2_newBytesFor_77867, Cond.code yJ2_newBytesFor_77867 cJ2_newBytesFor_77867 1 (some (.array .byte)), Cond.methodLink RJ2 11 yJ2_newBytesLength_0f7a4, Cond.static yJ2_newBytesLength_0f7a4, Cond.code yJ2_newBytesLength_0f7a4 cJ2_newBytesLength_0f7a4 1 (some .int), Cond.constant RJ2 20 (1073741823)]
def wsJ4_append_15ec4_r6 : List Cond := [Cond.methodLink RJ5 125 yJ1_inflate_0e8fd, Cond.static yJ1_inflate_0e8fd, Cond.initialized RJ1, Cond.code yJ1_inflate_0e8fd cJ1_inflate_0e8fd 5 none, Cond.methodLink RJ1 240 yJ2_inflate_0e8fd, Cond.static yJ2_inflate_0e8fd, Cond.code yJ2_inflate_0e8fd cJ2_inflate_0e8fd 6 none, Cond.methodLink RJ2 173 yJ2_checkBoundsOffCount_d044e, Cond.static yJ2_checkBoundsOffCount_d044e, Cond.code yJ2_checkBoundsOffCount_d044e cJ2_checkBoundsOffCount_d044e 3 none, Cond.methodLink RJ2 419 yJ0_checkBoundsOffCount_cabcc, Cond.static yJ0_checkBoundsOffCount_cabcc, Cond.code yJ0_checkBoundsOffCount_cabcc cJ0_checkBoundsOffCount_cabcc 3 (some .int), Cond.methodLink RJ0 1065 yJ3_checkFromIndexSize_8c36e, Cond.static yJ3_checkFromIndexSize_8c36e, Cond.code yJ3_checkFromIndexSize_8c36e cJ3_checkFromIndexSize_8c36e 4 (some .int), Cond.methodLink RJ5 399 yJ0_getBytes_840e7, Cond.instanceMethod yJ0_getBytes_840e7, Cond.selects RJ0 yJ0_getBytes_840e7 yJ0_getBytes_840e7, Cond.code yJ0_getBytes_840e7 cJ0_getBytes_840e7 4 none, Cond.methodLink RJ0 212 arraycopyName, Cond.methodLink RJ0 106 yJ1_inflate_0e8fd]
def wsJ4_append_15ec4 : List Cond := .code yJ4_append_15ec4 cJ4_append_15ec4 2 (some (.object "java/lang/StringBuilder")) :: ((wsJ4_append_15ec4_r1 ++ (wsJ4_append_15ec4_r2 ++ (wsJ4_append_15ec4_r3 ++ (wsJ4_append_15ec4_r4 ++ (wsJ4_append_15ec4_r5 ++ wsJ4_append_15ec4_r6))))) ++ wsJ40 ++ wsJ00)
def wsJ4_append_bf812_r1 : List Cond := [Cond.methodLink RJ4 53 yJ5_append_c97b9, Cond.sameMethod "java/lang/AbstractStringBuilder" "java/lang/AbstractStringBuilder" "append" "(I)Ljava/lang/AbstractStringBuilder;", Cond.superclass RJ4 RJ5, Cond.instanceMethod yJ5_append_c97b9, Cond.initialized RJ5, Cond.code yJ5_append_c97b9 cJ5_append_c97b9 4 (some (.object "java/lang/AbstractStringBuilder")), Cond.fieldLink RJ5 79 "java/lang/AbstractStringBuilder" "count" "I", Cond.fieldLink RJ5 15 "java/lang/AbstractStringBuilder" "value" "[B", Cond.methodLink RJ5 245 yJ6_stringSize_0f7a4, Cond.static yJ6_stringSize_0f7a4, Cond.initialized RJ6, Cond.code yJ6_stringSize_0f7a4 cJ6_stringSize_0f7a4 4 (some .int), Cond.methodLink RJ5 100 ⟨"java/lang/AbstractStringBuilder", "ensureCapacityInternal", "(I)V"⟩, Cond.sameMethod "java/lang/AbstractStringBuilder" "java/lang/AbstractStringBuilder" "ensureCapacityInternal" "(I)V", Cond.selects RJ4 ⟨"java/lang/AbstractStringBuilder", "ensureCapacityInternal", "(I)V"⟩ yJ5_ensureCapacityInternal_d00df, Cond.instanceMethod yJ5_ensureCapacityInternal_d00df, Cond.code yJ5_ensureCapacityInternal_d00df cJ5_ensureCapacityInternal_d00df 3 none, Cond.fieldLink RJ5 22 "java/lang/AbstractStringBuilder" "coder" "B", Cond.methodLink RJ5 104 ⟨"java/lang/AbstractStringBuilder", "newCapacity", "(I)I"⟩, Cond.sameMethod "java/lang/AbstractStringBuilder" "java/lang/AbstractStringBuilder" "newCapacity" "(I)I", Cond.selects RJ4 ⟨"java/lang/AbstractStringBuilder", "newCapacity", "(I)I"⟩ yJ5_newCapacity_0f7a4, Cond.instanceMethod yJ5_newCapacity_0f7a4, Cond.code yJ5_newCapacity_0f7a4 cJ5_newCapacity_0f7a4 6 (some .int), Cond.constant RJ5 39 (2147483647)]
def wsJ4_append_bf812_r2 : List Cond := [Cond.methodLink RJ5 114 yJ8_newLength_cabcc, Cond.static yJ8_newLength_cabcc, Cond.initialized RJ8, Cond.code yJ8_newLength_cabcc cJ8_newLength_cabcc 4 (some .int), Cond.methodLink RJ8 194 Lib.Math.max.name, Cond.static Lib.Math.max.name, Cond.initialized "java/lang/Math", Cond.code Lib.Math.max.name Lib.Math.max.code 2 (some .int), Cond.constant RJ8 200 (2147483639), Cond.methodLink RJ8 201 yJ8_hugeLength_7cf53, Cond.static yJ8_hugeLength_7cf53, Cond.code yJ8_hugeLength_7cf53 cJ8_hugeLength_7cf53 3 (some .int), Cond.methodLink RJ5 108 yJ7_copyOf_9075b, Cond.static yJ7_copyOf_9075b, Cond.initialized RJ7, Cond.code yJ7_copyOf_9075b cJ7_copyOf_9075b 3 (some (.array .byte)), Cond.methodLink RJ7 310 ⟨"[B", "clone", "()Ljava/lang/Object;"⟩, Cond.sameMethod "[B" "java/lang/Object" "clone" "()Ljava/lang/Object;", Cond.native ⟨"java/lang/Object", "clone", "()Ljava/lang/Object;"⟩, Cond.instanceMethod ⟨"java/lang/Object", "clone", "()Ljava/lang/Object;"⟩, Cond.selects "[B" ⟨"[B", "clone", "()Ljava/lang/Object;"⟩ ⟨"java/lang/Object", "clone", "()Ljava/lang/Object;"⟩, Cond.classLink RJ7 311 "[B", Cond.arrayClass .byte, Cond.methodLink RJ7 304 Lib.Math.min.name]
def wsJ4_append_bf812_r3 : List Cond := [Cond.static Lib.Math.min.name, Cond.code Lib.Math.min.name Lib.Math.min.code 2 (some .int), Cond.methodLink RJ7 150 arraycopyName, Cond.native arraycopyName, Cond.static arraycopyName, Cond.initialized "java/lang/System", Cond.methodLink RJ5 83 ⟨"java/lang/AbstractStringBuilder", "isLatin1", "()Z"⟩, Cond.sameMethod "java/lang/AbstractStringBuilder" "java/lang/AbstractStringBuilder" "isLatin1" "()Z", Cond.selects RJ4 ⟨"java/lang/AbstractStringBuilder", "isLatin1", "()Z"⟩ yJ5_isLatin1_aae02, Cond.instanceMethod yJ5_isLatin1_aae02, Cond.code yJ5_isLatin1_aae02 cJ5_isLatin1_aae02 1 (some .boolean), Cond.fieldLink RJ5 18 "java/lang/String" "COMPACT_STRINGS" "Z", Cond.methodLink RJ5 248 yJ6_getChars_ba4f3, Cond.static yJ6_getChars_ba4f3, Cond.code yJ6_getChars_ba4f3 cJ6_getChars_ba4f3 7 (some .int), Cond.fieldLink RJ6 83 "java/lang/Integer" "DigitOnes" "[B", Cond.fieldLink RJ6 87 "java/lang/Integer" "DigitTens" "[B", Cond.methodLink RJ5 251 yJ2_getChars_46870, Cond.static yJ2_getChars_46870, Cond.initialized RJ2, Cond.code yJ2_getChars_46870 cJ2_getChars_46870 5 (some .int), Cond.fieldLink RJ2 44 "java/lang/StringUTF16" "$assertionsDisabled" "Z", Cond.methodLink RJ2 96 yJ2_checkBoundsBeginEnd_d044e, Cond.static yJ2_checkBoundsBeginEnd_d044e]
def wsJ4_append_bf812_r4 : List Cond := [Cond.code yJ2_checkBoundsBeginEnd_d044e cJ2_checkBoundsBeginEnd_d044e 3 none, Cond.methodLink RJ2 48 yJ2_length_9d52b, Cond.static yJ2_length_9d52b, Cond.code yJ2_length_9d52b cJ2_length_9d52b 1 (some .int), Cond.methodLink RJ2 241 yJ0_checkBoundsBeginEnd_23922, Cond.static yJ0_checkBoundsBeginEnd_23922, Cond.initialized RJ0, Cond.code yJ0_checkBoundsBeginEnd_23922 cJ0_checkBoundsBeginEnd_23922 3 none, Cond.fieldLink RJ0 1053 "jdk/internal/util/Preconditions" "SIOOBE_FORMATTER" "Ljava/util/function/BiFunction;", Cond.methodLink RJ0 1062 yJ3_checkFromToIndex_8c36e, Cond.static yJ3_checkFromToIndex_8c36e, Cond.initialized RJ3, Cond.code yJ3_checkFromToIndex_8c36e cJ3_checkFromToIndex_8c36e 4 (some .int), Cond.methodLink RJ2 393 yJ2_getChars_ba4f3, Cond.static yJ2_getChars_ba4f3, Cond.code yJ2_getChars_ba4f3 cJ2_getChars_ba4f3 7 (some .int), Cond.fieldLink RJ2 403 "java/lang/Integer" "DigitOnes" "[B", Cond.fieldLink RJ2 407 "java/lang/Integer" "DigitTens" "[B", Cond.methodLink RJ2 111 yJ2_putChar_b72d1, Cond.static yJ2_putChar_b72d1, Cond.code yJ2_putChar_b72d1 cJ2_putChar_b72d1 3 none, Cond.fieldLink RJ2 59 "java/lang/StringUTF16" "HI_BYTE_SHIFT" "I", Cond.fieldLink RJ2 63 "java/lang/StringUTF16" "LO_BYTE_SHIFT" "I"]
def wsJ4_append_bf812 : List Cond := .code yJ4_append_bf812 cJ4_append_bf812 2 (some (.object "java/lang/StringBuilder")) :: ((wsJ4_append_bf812_r1 ++ (wsJ4_append_bf812_r2 ++ (wsJ4_append_bf812_r3 ++ wsJ4_append_bf812_r4))) ++ wsJ40)
def wsJ4_length_8abf5 : List Cond := .code yJ4_length_8abf5 cJ4_length_8abf5 1 (some .int) :: ([.methodLink RJ4 343 yJ5_length_8abf5, .sameMethod "java/lang/AbstractStringBuilder" "java/lang/AbstractStringBuilder" "length" "()I", .superclass RJ4 RJ5, .instanceMethod yJ5_length_8abf5, .initialized RJ5, .code yJ5_length_8abf5 cJ5_length_8abf5 1 (some .int), .fieldLink RJ5 79 "java/lang/AbstractStringBuilder" "count" "I"] ++ wsJ40)
def wsJ7_checkLength_df160 : List Cond := .code yJ7_checkLength_df160 cJ7_checkLength_df160 2 none :: ([.classLink RJ7 45 RJ4, .instantiable RJ4 4, .initialized RJ4] ++ wsJ40)
def wsJ7_copyOfRangeByte_39247 : List Cond := .code yJ7_copyOfRangeByte_39247 cJ7_copyOfRangeByte_39247 5 (some (.array .byte)) :: ([.arrayClass .byte, .methodLink RJ7 304 Lib.Math.min.name, .static Lib.Math.min.name, .initialized "java/lang/Math", .code Lib.Math.min.name Lib.Math.min.code 2 (some .int), .methodLink RJ7 150 arraycopyName, .native arraycopyName, .static arraycopyName, .initialized "java/lang/System", .methodLink RJ7 343 yJ7_checkLength_df160, .static yJ7_checkLength_df160, .initialized RJ7, .code yJ7_checkLength_df160 cJ7_checkLength_df160 2 none, .classLink RJ7 45 RJ4, .instantiable RJ4 4, .initialized RJ4] ++ wsJ40)
def wsJ7_copyOfRange_39247_r1 : List Cond := [Cond.methodLink RJ7 310 ⟨"[B", "clone", "()Ljava/lang/Object;"⟩, Cond.sameMethod "[B" "java/lang/Object" "clone" "()Ljava/lang/Object;", Cond.native ⟨"java/lang/Object", "clone", "()Ljava/lang/Object;"⟩, Cond.instanceMethod ⟨"java/lang/Object", "clone", "()Ljava/lang/Object;"⟩, Cond.selects "[B" ⟨"[B", "clone", "()Ljava/lang/Object;"⟩ ⟨"java/lang/Object", "clone", "()Ljava/lang/Object;"⟩, Cond.classLink RJ7 311 "[B", Cond.methodLink RJ7 339 yJ7_copyOfRangeByte_39247, Cond.static yJ7_copyOfRangeByte_39247, Cond.initialized RJ7, Cond.code yJ7_copyOfRangeByte_39247 cJ7_copyOfRangeByte_39247 5 (some (.array .byte)), Cond.arrayClass .byte, Cond.methodLink RJ7 304 Lib.Math.min.name, Cond.static Lib.Math.min.name, Cond.initialized "java/lang/Math", Cond.code Lib.Math.min.name Lib.Math.min.code 2 (some .int), Cond.methodLink RJ7 150 arraycopyName, Cond.native arraycopyName, Cond.static arraycopyName, Cond.initialized "java/lang/System", Cond.methodLink RJ7 343 yJ7_checkLength_df160, Cond.static yJ7_checkLength_df160, Cond.code yJ7_checkLength_df160 cJ7_checkLength_df160 2 none, Cond.classLink RJ7 45 RJ4, Cond.instantiable RJ4 4]
def wsJ7_copyOfRange_39247_r2 : List Cond := [Cond.initialized RJ4]
def wsJ7_copyOfRange_39247 : List Cond := .code yJ7_copyOfRange_39247 cJ7_copyOfRange_39247 3 (some (.array .byte)) :: ((wsJ7_copyOfRange_39247_r1 ++ wsJ7_copyOfRange_39247_r2) ++ wsJ40)
def wsJ2_getChar_3b067 : List Cond := .code yJ2_getChar_3b067 cJ2_getChar_3b067 2 (some .char) :: ([.fieldLink RJ2 44 "java/lang/StringUTF16" "$assertionsDisabled" "Z", .fieldLink RJ2 59 "java/lang/StringUTF16" "HI_BYTE_SHIFT" "I", .fieldLink RJ2 63 "java/lang/StringUTF16" "LO_BYTE_SHIFT" "I", .methodLink RJ2 48 yJ2_length_9d52b, .static yJ2_length_9d52b, .initialized RJ2, .code yJ2_length_9d52b cJ2_length_9d52b 1 (some .int)])
def wsJ2_compress_5af95 : List Cond := .code yJ2_compress_5af95 cJ2_compress_5af95 7 (some .int) :: ([.methodLink RJ2 173 yJ2_checkBoundsOffCount_d044e, .static yJ2_checkBoundsOffCount_d044e, .initialized RJ2, .code yJ2_checkBoundsOffCount_d044e cJ2_checkBoundsOffCount_d044e 3 none, .methodLink RJ2 48 yJ2_length_9d52b, .static yJ2_length_9d52b, .code yJ2_length_9d52b cJ2_length_9d52b 1 (some .int), .methodLink RJ2 419 yJ0_checkBoundsOffCount_cabcc, .static yJ0_checkBoundsOffCount_cabcc, .initialized RJ0, .code yJ0_checkBoundsOffCount_cabcc cJ0_checkBoundsOffCount_cabcc 3 (some .int), .fieldLink RJ0 1053 "jdk/internal/util/Preconditions" "SIOOBE_FORMATTER" "Ljava/util/function/BiFunction;", .methodLink RJ0 1065 yJ3_checkFromIndexSize_8c36e, .static yJ3_checkFromIndexSize_8c36e, .initialized RJ3, .code yJ3_checkFromIndexSize_8c36e cJ3_checkFromIndexSize_8c36e 4 (some .int), .methodLink RJ2 71 yJ2_getChar_3b067, .static yJ2_getChar_3b067, .code yJ2_getChar_3b067 cJ2_getChar_3b067 2 (some .char), .fieldLink RJ2 44 "java/lang/StringUTF16" "$assertionsDisabled" "Z", .fieldLink RJ2 59 "java/lang/StringUTF16" "HI_BYTE_SHIFT" "I", .fieldLink RJ2 63 "java/lang/StringUTF16" "LO_BYTE_SHIFT" "I"])
def wsJ2_compress_39247_r1 : List Cond := [Cond.arrayClass .byte, Cond.methodLink RJ2 123 yJ2_compress_5af95, Cond.static yJ2_compress_5af95, Cond.initialized RJ2, Cond.code yJ2_compress_5af95 cJ2_compress_5af95 7 (some .int), Cond.methodLink RJ2 173 yJ2_checkBoundsOffCount_d044e, Cond.static yJ2_checkBoundsOffCount_d044e, Cond.code yJ2_checkBoundsOffCount_d044e cJ2_checkBoundsOffCount_d044e 3 none, Cond.methodLink RJ2 48 yJ2_length_9d52b, Cond.static yJ2_length_9d52b, Cond.code yJ2_length_9d52b cJ2_length_9d52b 1 (some .int), Cond.methodLink RJ2 419 yJ0_checkBoundsOffCount_cabcc, Cond.static yJ0_checkBoundsOffCount_cabcc, Cond.initialized RJ0, Cond.code yJ0_checkBoundsOffCount_cabcc cJ0_checkBoundsOffCount_cabcc 3 (some .int), Cond.fieldLink RJ0 1053 "jdk/internal/util/Preconditions" "SIOOBE_FORMATTER" "Ljava/util/function/BiFunction;", Cond.methodLink RJ0 1065 yJ3_checkFromIndexSize_8c36e, Cond.static yJ3_checkFromIndexSize_8c36e, Cond.initialized RJ3, Cond.code yJ3_checkFromIndexSize_8c36e cJ3_checkFromIndexSize_8c36e 4 (some .int), Cond.methodLink RJ2 71 yJ2_getChar_3b067, Cond.static yJ2_getChar_3b067, Cond.code yJ2_getChar_3b067 cJ2_getChar_3b067 2 (some .char), Cond.fieldLink RJ2 44 "java/lang/StringUTF16" "$assertionsDisabled" "Z"]
def wsJ2_compress_39247_r2 : List Cond := [Cond.fieldLink RJ2 59 "java/lang/StringUTF16" "HI_BYTE_SHIFT" "I", Cond.fieldLink RJ2 63 "java/lang/StringUTF16" "LO_BYTE_SHIFT" "I", Cond.methodLink RJ2 11 yJ2_newBytesLength_0f7a4, Cond.static yJ2_newBytesLength_0f7a4, Cond.code yJ2_newBytesLength_0f7a4 cJ2_newBytesLength_0f7a4 1 (some .int), Cond.constant RJ2 20 (1073741823), Cond.methodLink RJ2 126 yJ7_copyOfRange_39247, Cond.static yJ7_copyOfRange_39247, Cond.initialized RJ7, Cond.code yJ7_copyOfRange_39247 cJ7_copyOfRange_39247 3 (some (.array .byte)), Cond.methodLink RJ7 310 ⟨"[B", "clone", "()Ljava/lang/Object;"⟩, Cond.sameMethod "[B" "java/lang/Object" "clone" "()Ljava/lang/Object;", Cond.native ⟨"java/lang/Object", "clone", "()Ljava/lang/Object;"⟩, Cond.instanceMethod ⟨"java/lang/Object", "clone", "()Ljava/lang/Object;"⟩, Cond.selects "[B" ⟨"[B", "clone", "()Ljava/lang/Object;"⟩ ⟨"java/lang/Object", "clone", "()Ljava/lang/Object;"⟩, Cond.classLink RJ7 311 "[B", Cond.methodLink RJ7 339 yJ7_copyOfRangeByte_39247, Cond.static yJ7_copyOfRangeByte_39247, Cond.code yJ7_copyOfRangeByte_39247 cJ7_copyOfRangeByte_39247 5 (some (.array .byte)), Cond.methodLink RJ7 304 Lib.Math.min.name, Cond.static Lib.Math.min.name, Cond.initialized "java/lang/Math", Cond.code Lib.Math.min.name Lib.Math.min.code 2 (some .int), Cond.methodLink RJ7 150 arraycopyName]
def wsJ2_compress_39247_r3 : List Cond := [Cond.native arraycopyName, Cond.static arraycopyName, Cond.initialized "java/lang/System", Cond.methodLink RJ7 343 yJ7_checkLength_df160, Cond.static yJ7_checkLength_df160, Cond.code yJ7_checkLength_df160 cJ7_checkLength_df160 2 none, Cond.classLink RJ7 45 RJ4, Cond.instantiable RJ4 4, Cond.initialized RJ4]
def wsJ2_compress_39247 : List Cond := .code yJ2_compress_39247 cJ2_compress_39247 6 (some (.array .byte)) :: ((wsJ2_compress_39247_r1 ++ (wsJ2_compress_39247_r2 ++ wsJ2_compress_39247_r3)) ++ wsJ40)
def wsJ2_coderFromArrayLen_85cad : List Cond := .code yJ2_coderFromArrayLen_85cad cJ2_coderFromArrayLen_85cad 2 (some .byte) :: ([])
def wsJ0_init_db425_r1 : List Cond := [Cond.methodLink RJ0 1 objectInit, Cond.instanceMethod objectInit, Cond.code objectInit ⟨#[0xb1]⟩ 1 none, Cond.fieldLink RJ0 15 "java/lang/String" "coder" "B", Cond.fieldLink RJ0 9 "java/lang/String" "value" "[B", Cond.fieldLink RJ0 38 "java/lang/String" "COMPACT_STRINGS" "Z", Cond.fieldLink RJ0 1048 "java/lang/AbstractStringBuilder" "maybeLatin1" "Z", Cond.methodLink RJ0 552 ⟨"java/lang/AbstractStringBuilder", "getValue", "()[B"⟩, Cond.sameMethod "java/lang/AbstractStringBuilder" "java/lang/AbstractStringBuilder" "getValue" "()[B", Cond.selects RJ4 ⟨"java/lang/AbstractStringBuilder", "getValue", "()[B"⟩ yJ5_getValue_6d5f1, Cond.instanceMethod yJ5_getValue_6d5f1, Cond.initialized RJ5, Cond.code yJ5_getValue_6d5f1 cJ5_getValue_6d5f1 1 (some (.array .byte)), Cond.fieldLink RJ5 15 "java/lang/AbstractStringBuilder" "value" "[B", Cond.methodLink RJ0 549 ⟨"java/lang/AbstractStringBuilder", "length", "()I"⟩, Cond.sameMethod "java/lang/AbstractStringBuilder" "java/lang/AbstractStringBuilder" "length" "()I", Cond.instanceMethod ⟨"java/lang/AbstractStringBuilder", "length", "()I"⟩, Cond.selects RJ4 ⟨"java/lang/AbstractStringBuilder", "length", "()I"⟩ yJ4_length_8abf5, Cond.instanceMethod yJ4_length_8abf5, Cond.initialized RJ4, Cond.code yJ4_length_8abf5 cJ4_length_8abf5 1 (some .int), Cond.methodLink RJ4 343 yJ5_length_8abf5, Cond.superclass RJ4 RJ5, Cond.instanceMethod yJ5_length_8abf5]
def wsJ0_init_db425_r2 : List Cond := [Cond.code yJ5_length_8abf5 cJ5_length_8abf5 1 (some .int), Cond.fieldLink RJ5 79 "java/lang/AbstractStringBuilder" "count" "I", Cond.methodLink RJ0 1047 ⟨"java/lang/AbstractStringBuilder", "isLatin1", "()Z"⟩, Cond.sameMethod "java/lang/AbstractStringBuilder" "java/lang/AbstractStringBuilder" "isLatin1" "()Z", Cond.selects RJ4 ⟨"java/lang/AbstractStringBuilder", "isLatin1", "()Z"⟩ yJ5_isLatin1_aae02, Cond.instanceMethod yJ5_isLatin1_aae02, Cond.code yJ5_isLatin1_aae02 cJ5_isLatin1_aae02 1 (some .boolean), Cond.fieldLink RJ5 18 "java/lang/String" "COMPACT_STRINGS" "Z", Cond.fieldLink RJ5 22 "java/lang/AbstractStringBuilder" "coder" "B", Cond.methodLink RJ0 54 yJ7_copyOfRange_39247, Cond.static yJ7_copyOfRange_39247, Cond.initialized RJ7, Cond.code yJ7_copyOfRange_39247 cJ7_copyOfRange_39247 3 (some (.array .byte)), Cond.methodLink RJ7 310 ⟨"[B", "clone", "()Ljava/lang/Object;"⟩, Cond.sameMethod "[B" "java/lang/Object" "clone" "()Ljava/lang/Object;", Cond.native ⟨"java/lang/Object", "clone", "()Ljava/lang/Object;"⟩, Cond.instanceMethod ⟨"java/lang/Object", "clone", "()Ljava/lang/Object;"⟩, Cond.selects "[B" ⟨"[B", "clone", "()Ljava/lang/Object;"⟩ ⟨"java/lang/Object", "clone", "()Ljava/lang/Object;"⟩, Cond.classLink RJ7 311 "[B", Cond.methodLink RJ7 339 yJ7_copyOfRangeByte_39247, Cond.static yJ7_copyOfRangeByte_39247, Cond.code yJ7_copyOfRangeByte_39247 cJ7_copyOfRangeByte_39247 5 (some (.array .byte)), Cond.arrayClass .byte, Cond.methodLink RJ7 304 Lib.Math.min.name]
def wsJ0_init_db425_r3 : List Cond := [Cond.static Lib.Math.min.name, Cond.initialized "java/lang/Math", Cond.code Lib.Math.min.name Lib.Math.min.code 2 (some .int), Cond.methodLink RJ7 150 arraycopyName, Cond.native arraycopyName, Cond.static arraycopyName, Cond.initialized "java/lang/System", Cond.methodLink RJ7 343 yJ7_checkLength_df160, Cond.static yJ7_checkLength_df160, Cond.code yJ7_checkLength_df160 cJ7_checkLength_df160 2 none, Cond.classLink RJ7 45 RJ4, Cond.instantiable RJ4 4, Cond.methodLink RJ0 1051 yJ2_compress_39247, Cond.static yJ2_compress_39247, Cond.initialized RJ2, Cond.code yJ2_compress_39247 cJ2_compress_39247 6 (some (.array .byte)), Cond.methodLink RJ2 123 yJ2_compress_5af95, Cond.static yJ2_compress_5af95, Cond.code yJ2_compress_5af95 cJ2_compress_5af95 7 (some .int), Cond.methodLink RJ2 173 yJ2_checkBoundsOffCount_d044e, Cond.static yJ2_checkBoundsOffCount_d044e, Cond.code yJ2_checkBoundsOffCount_d044e cJ2_checkBoundsOffCount_d044e 3 none, Cond.methodLink RJ2 48 yJ2_length_9d52b, Cond.static yJ2_length_9d52b]
def wsJ0_init_db425_r4 : List Cond := [Cond.code yJ2_length_9d52b cJ2_length_9d52b 1 (some .int), Cond.methodLink RJ2 419 yJ0_checkBoundsOffCount_cabcc, Cond.static yJ0_checkBoundsOffCount_cabcc, Cond.initialized RJ0, Cond.code yJ0_checkBoundsOffCount_cabcc cJ0_checkBoundsOffCount_cabcc 3 (some .int), Cond.fieldLink RJ0 1053 "jdk/internal/util/Preconditions" "SIOOBE_FORMATTER" "Ljava/util/function/BiFunction;", Cond.methodLink RJ0 1065 yJ3_checkFromIndexSize_8c36e, Cond.static yJ3_checkFromIndexSize_8c36e, Cond.initialized RJ3, Cond.code yJ3_checkFromIndexSize_8c36e cJ3_checkFromIndexSize_8c36e 4 (some .int), Cond.methodLink RJ2 71 yJ2_getChar_3b067, Cond.static yJ2_getChar_3b067, Cond.code yJ2_getChar_3b067 cJ2_getChar_3b067 2 (some .char), Cond.fieldLink RJ2 44 "java/lang/StringUTF16" "$assertionsDisabled" "Z", Cond.fieldLink RJ2 59 "java/lang/StringUTF16" "HI_BYTE_SHIFT" "I", Cond.fieldLink RJ2 63 "java/lang/StringUTF16" "LO_BYTE_SHIFT" "I", Cond.methodLink RJ2 11 yJ2_newBytesLength_0f7a4, Cond.static yJ2_newBytesLength_0f7a4, Cond.code yJ2_newBytesLength_0f7a4 cJ2_newBytesLength_0f7a4 1 (some .int), Cond.constant RJ2 20 (1073741823), Cond.methodLink RJ2 126 yJ7_copyOfRange_39247, Cond.methodLink RJ0 47 yJ2_coderFromArrayLen_85cad, Cond.static yJ2_coderFromArrayLen_85cad, Cond.code yJ2_coderFromArrayLen_85cad cJ2_coderFromArrayLen_85cad 2 (some .byte)]
def wsJ0_init_db425 : List Cond := .code yJ0_init_db425 cJ0_init_db425 5 none :: ((wsJ0_init_db425_r1 ++ (wsJ0_init_db425_r2 ++ (wsJ0_init_db425_r3 ++ wsJ0_init_db425_r4))) ++ wsJ00 ++ wsJ40)
def wsJ0_init_81219_r1 : List Cond := [Cond.methodLink RJ0 489 yJ0_init_db425, Cond.instanceMethod yJ0_init_db425, Cond.initialized RJ0, Cond.code yJ0_init_db425 cJ0_init_db425 5 none, Cond.methodLink RJ0 1 objectInit, Cond.instanceMethod objectInit, Cond.code objectInit ⟨#[0xb1]⟩ 1 none, Cond.fieldLink RJ0 15 "java/lang/String" "coder" "B", Cond.fieldLink RJ0 9 "java/lang/String" "value" "[B", Cond.fieldLink RJ0 38 "java/lang/String" "COMPACT_STRINGS" "Z", Cond.fieldLink RJ0 1048 "java/lang/AbstractStringBuilder" "maybeLatin1" "Z", Cond.methodLink RJ0 552 ⟨"java/lang/AbstractStringBuilder", "getValue", "()[B"⟩, Cond.sameMethod "java/lang/AbstractStringBuilder" "java/lang/AbstractStringBuilder" "getValue" "()[B", Cond.selects RJ4 ⟨"java/lang/AbstractStringBuilder", "getValue", "()[B"⟩ yJ5_getValue_6d5f1, Cond.instanceMethod yJ5_getValue_6d5f1, Cond.initialized RJ5, Cond.code yJ5_getValue_6d5f1 cJ5_getValue_6d5f1 1 (some (.array .byte)), Cond.fieldLink RJ5 15 "java/lang/AbstractStringBuilder" "value" "[B", Cond.methodLink RJ0 549 ⟨"java/lang/AbstractStringBuilder", "length", "()I"⟩, Cond.sameMethod "java/lang/AbstractStringBuilder" "java/lang/AbstractStringBuilder" "length" "()I", Cond.instanceMethod ⟨"java/lang/AbstractStringBuilder", "length", "()I"⟩, Cond.selects RJ4 ⟨"java/lang/AbstractStringBuilder", "length", "()I"⟩ yJ4_length_8abf5, Cond.instanceMethod yJ4_length_8abf5, Cond.initialized RJ4]
def wsJ0_init_81219_r2 : List Cond := [Cond.code yJ4_length_8abf5 cJ4_length_8abf5 1 (some .int), Cond.methodLink RJ4 343 yJ5_length_8abf5, Cond.superclass RJ4 RJ5, Cond.instanceMethod yJ5_length_8abf5, Cond.code yJ5_length_8abf5 cJ5_length_8abf5 1 (some .int), Cond.fieldLink RJ5 79 "java/lang/AbstractStringBuilder" "count" "I", Cond.methodLink RJ0 1047 ⟨"java/lang/AbstractStringBuilder", "isLatin1", "()Z"⟩, Cond.sameMethod "java/lang/AbstractStringBuilder" "java/lang/AbstractStringBuilder" "isLatin1" "()Z", Cond.selects RJ4 ⟨"java/lang/AbstractStringBuilder", "isLatin1", "()Z"⟩ yJ5_isLatin1_aae02, Cond.instanceMethod yJ5_isLatin1_aae02, Cond.code yJ5_isLatin1_aae02 cJ5_isLatin1_aae02 1 (some .boolean), Cond.fieldLink RJ5 18 "java/lang/String" "COMPACT_STRINGS" "Z", Cond.fieldLink RJ5 22 "java/lang/AbstractStringBuilder" "coder" "B", Cond.methodLink RJ0 54 yJ7_copyOfRange_39247, Cond.static yJ7_copyOfRange_39247, Cond.initialized RJ7, Cond.code yJ7_copyOfRange_39247 cJ7_copyOfRange_39247 3 (some (.array .byte)), Cond.methodLink RJ7 310 ⟨"[B", "clone", "()Ljava/lang/Object;"⟩, Cond.sameMethod "[B" "java/lang/Object" "clone" "()Ljava/lang/Object;", Cond.native ⟨"java/lang/Object", "clone", "()Ljava/lang/Object;"⟩, Cond.instanceMethod ⟨"java/lang/Object", "clone", "()Ljava/lang/Object;"⟩, Cond.selects "[B" ⟨"[B", "clone", "()Ljava/lang/Object;"⟩ ⟨"java/lang/Object", "clone", "()Ljava/lang/Object;"⟩, Cond.classLink RJ7 311 "[B", Cond.methodLink RJ7 339 yJ7_copyOfRangeByte_39247]
def wsJ0_init_81219_r3 : List Cond := [Cond.static yJ7_copyOfRangeByte_39247, Cond.code yJ7_copyOfRangeByte_39247 cJ7_copyOfRangeByte_39247 5 (some (.array .byte)), Cond.arrayClass .byte, Cond.methodLink RJ7 304 Lib.Math.min.name, Cond.static Lib.Math.min.name, Cond.initialized "java/lang/Math", Cond.code Lib.Math.min.name Lib.Math.min.code 2 (some .int), Cond.methodLink RJ7 150 arraycopyName, Cond.native arraycopyName, Cond.static arraycopyName, Cond.initialized "java/lang/System", Cond.methodLink RJ7 343 yJ7_checkLength_df160, Cond.static yJ7_checkLength_df160, Cond.code yJ7_checkLength_df160 cJ7_checkLength_df160 2 none, Cond.classLink RJ7 45 RJ4, Cond.instantiable RJ4 4, Cond.methodLink RJ0 1051 yJ2_compress_39247, Cond.static yJ2_compress_39247, Cond.initialized RJ2, Cond.code yJ2_compress_39247 cJ2_compress_39247 6 (some (.array .byte)), Cond.methodLink RJ2 123 yJ2_compress_5af95, Cond.static yJ2_compress_5af95, Cond.code yJ2_compress_5af95 cJ2_compress_5af95 7 (some .int), Cond.methodLink RJ2 173 yJ2_checkBoundsOffCount_d044e]
def wsJ0_init_81219_r4 : List Cond := [Cond.static yJ2_checkBoundsOffCount_d044e, Cond.code yJ2_checkBoundsOffCount_d044e cJ2_checkBoundsOffCount_d044e 3 none, Cond.methodLink RJ2 48 yJ2_length_9d52b, Cond.static yJ2_length_9d52b, Cond.code yJ2_length_9d52b cJ2_length_9d52b 1 (some .int), Cond.methodLink RJ2 419 yJ0_checkBoundsOffCount_cabcc, Cond.static yJ0_checkBoundsOffCount_cabcc, Cond.code yJ0_checkBoundsOffCount_cabcc cJ0_checkBoundsOffCount_cabcc 3 (some .int), Cond.fieldLink RJ0 1053 "jdk/internal/util/Preconditions" "SIOOBE_FORMATTER" "Ljava/util/function/BiFunction;", Cond.methodLink RJ0 1065 yJ3_checkFromIndexSize_8c36e, Cond.static yJ3_checkFromIndexSize_8c36e, Cond.initialized RJ3, Cond.code yJ3_checkFromIndexSize_8c36e cJ3_checkFromIndexSize_8c36e 4 (some .int), Cond.methodLink RJ2 71 yJ2_getChar_3b067, Cond.static yJ2_getChar_3b067, Cond.code yJ2_getChar_3b067 cJ2_getChar_3b067 2 (some .char), Cond.fieldLink RJ2 44 "java/lang/StringUTF16" "$assertionsDisabled" "Z", Cond.fieldLink RJ2 59 "java/lang/StringUTF16" "HI_BYTE_SHIFT" "I", Cond.fieldLink RJ2 63 "java/lang/StringUTF16" "LO_BYTE_SHIFT" "I", Cond.methodLink RJ2 11 yJ2_newBytesLength_0f7a4, Cond.static yJ2_newBytesLength_0f7a4, Cond.code yJ2_newBytesLength_0f7a4 cJ2_newBytesLength_0f7a4 1 (some .int), Cond.constant RJ2 20 (1073741823), Cond.methodLink RJ2 126 yJ7_copyOfRange_39247]
def wsJ0_init_81219_r5 : List Cond := [Cond.methodLink RJ0 47 yJ2_coderFromArrayLen_85cad, Cond.static yJ2_coderFromArrayLen_85cad, Cond.code yJ2_coderFromArrayLen_85cad cJ2_coderFromArrayLen_85cad 2 (some .byte)]
def wsJ0_init_81219 : List Cond := .code yJ0_init_81219 cJ0_init_81219 2 none :: ((wsJ0_init_81219_r1 ++ (wsJ0_init_81219_r2 ++ (wsJ0_init_81219_r3 ++ (wsJ0_init_81219_r4 ++ wsJ0_init_81219_r5)))) ++ wsJ00 ++ wsJ40)
def wsJ4_toString_0e30d_r1 : List Cond := [Cond.classLink RJ4 18 RJ0, Cond.instantiable RJ0 4, Cond.initialized RJ0, Cond.methodLink RJ4 137 yJ0_init_81219, Cond.instanceMethod yJ0_init_81219, Cond.code yJ0_init_81219 cJ0_init_81219 2 none, Cond.methodLink RJ0 489 yJ0_init_db425, Cond.instanceMethod yJ0_init_db425, Cond.code yJ0_init_db425 cJ0_init_db425 5 none, Cond.methodLink RJ0 1 objectInit, Cond.instanceMethod objectInit, Cond.code objectInit ⟨#[0xb1]⟩ 1 none, Cond.fieldLink RJ0 15 "java/lang/String" "coder" "B", Cond.fieldLink RJ0 9 "java/lang/String" "value" "[B", Cond.fieldLink RJ0 38 "java/lang/String" "COMPACT_STRINGS" "Z", Cond.fieldLink RJ0 1048 "java/lang/AbstractStringBuilder" "maybeLatin1" "Z", Cond.methodLink RJ0 552 ⟨"java/lang/AbstractStringBuilder", "getValue", "()[B"⟩, Cond.sameMethod "java/lang/AbstractStringBuilder" "java/lang/AbstractStringBuilder" "getValue" "()[B", Cond.selects RJ4 ⟨"java/lang/AbstractStringBuilder", "getValue", "()[B"⟩ yJ5_getValue_6d5f1, Cond.instanceMethod yJ5_getValue_6d5f1, Cond.initialized RJ5, Cond.code yJ5_getValue_6d5f1 cJ5_getValue_6d5f1 1 (some (.array .byte)), Cond.fieldLink RJ5 15 "java/lang/AbstractStringBuilder" "value" "[B", Cond.methodLink RJ0 549 ⟨"java/lang/AbstractStringBuilder", "length", "()I"⟩]
def wsJ4_toString_0e30d_r2 : List Cond := [Cond.sameMethod "java/lang/AbstractStringBuilder" "java/lang/AbstractStringBuilder" "length" "()I", Cond.instanceMethod ⟨"java/lang/AbstractStringBuilder", "length", "()I"⟩, Cond.selects RJ4 ⟨"java/lang/AbstractStringBuilder", "length", "()I"⟩ yJ4_length_8abf5, Cond.instanceMethod yJ4_length_8abf5, Cond.initialized RJ4, Cond.code yJ4_length_8abf5 cJ4_length_8abf5 1 (some .int), Cond.methodLink RJ4 343 yJ5_length_8abf5, Cond.superclass RJ4 RJ5, Cond.instanceMethod yJ5_length_8abf5, Cond.code yJ5_length_8abf5 cJ5_length_8abf5 1 (some .int), Cond.fieldLink RJ5 79 "java/lang/AbstractStringBuilder" "count" "I", Cond.methodLink RJ0 1047 ⟨"java/lang/AbstractStringBuilder", "isLatin1", "()Z"⟩, Cond.sameMethod "java/lang/AbstractStringBuilder" "java/lang/AbstractStringBuilder" "isLatin1" "()Z", Cond.selects RJ4 ⟨"java/lang/AbstractStringBuilder", "isLatin1", "()Z"⟩ yJ5_isLatin1_aae02, Cond.instanceMethod yJ5_isLatin1_aae02, Cond.code yJ5_isLatin1_aae02 cJ5_isLatin1_aae02 1 (some .boolean), Cond.fieldLink RJ5 18 "java/lang/String" "COMPACT_STRINGS" "Z", Cond.fieldLink RJ5 22 "java/lang/AbstractStringBuilder" "coder" "B", Cond.methodLink RJ0 54 yJ7_copyOfRange_39247, Cond.static yJ7_copyOfRange_39247, Cond.initialized RJ7, Cond.code yJ7_copyOfRange_39247 cJ7_copyOfRange_39247 3 (some (.array .byte)), Cond.methodLink RJ7 310 ⟨"[B", "clone", "()Ljava/lang/Object;"⟩, Cond.sameMethod "[B" "java/lang/Object" "clone" "()Ljava/lang/Object;"]
def wsJ4_toString_0e30d_r3 : List Cond := [Cond.native ⟨"java/lang/Object", "clone", "()Ljava/lang/Object;"⟩, Cond.instanceMethod ⟨"java/lang/Object", "clone", "()Ljava/lang/Object;"⟩, Cond.selects "[B" ⟨"[B", "clone", "()Ljava/lang/Object;"⟩ ⟨"java/lang/Object", "clone", "()Ljava/lang/Object;"⟩, Cond.classLink RJ7 311 "[B", Cond.methodLink RJ7 339 yJ7_copyOfRangeByte_39247, Cond.static yJ7_copyOfRangeByte_39247, Cond.code yJ7_copyOfRangeByte_39247 cJ7_copyOfRangeByte_39247 5 (some (.array .byte)), Cond.arrayClass .byte, Cond.methodLink RJ7 304 Lib.Math.min.name, Cond.static Lib.Math.min.name, Cond.initialized "java/lang/Math", Cond.code Lib.Math.min.name Lib.Math.min.code 2 (some .int), Cond.methodLink RJ7 150 arraycopyName, Cond.native arraycopyName, Cond.static arraycopyName, Cond.initialized "java/lang/System", Cond.methodLink RJ7 343 yJ7_checkLength_df160, Cond.static yJ7_checkLength_df160, Cond.code yJ7_checkLength_df160 cJ7_checkLength_df160 2 none, Cond.classLink RJ7 45 RJ4, Cond.instantiable RJ4 4, Cond.methodLink RJ0 1051 yJ2_compress_39247, Cond.static yJ2_compress_39247, Cond.initialized RJ2]
def wsJ4_toString_0e30d_r4 : List Cond := [Cond.code yJ2_compress_39247 cJ2_compress_39247 6 (some (.array .byte)), Cond.methodLink RJ2 123 yJ2_compress_5af95, Cond.static yJ2_compress_5af95, Cond.code yJ2_compress_5af95 cJ2_compress_5af95 7 (some .int), Cond.methodLink RJ2 173 yJ2_checkBoundsOffCount_d044e, Cond.static yJ2_checkBoundsOffCount_d044e, Cond.code yJ2_checkBoundsOffCount_d044e cJ2_checkBoundsOffCount_d044e 3 none, Cond.methodLink RJ2 48 yJ2_length_9d52b, Cond.static yJ2_length_9d52b, Cond.code yJ2_length_9d52b cJ2_length_9d52b 1 (some .int), Cond.methodLink RJ2 419 yJ0_checkBoundsOffCount_cabcc, Cond.static yJ0_checkBoundsOffCount_cabcc, Cond.code yJ0_checkBoundsOffCount_cabcc cJ0_checkBoundsOffCount_cabcc 3 (some .int), Cond.fieldLink RJ0 1053 "jdk/internal/util/Preconditions" "SIOOBE_FORMATTER" "Ljava/util/function/BiFunction;", Cond.methodLink RJ0 1065 yJ3_checkFromIndexSize_8c36e, Cond.static yJ3_checkFromIndexSize_8c36e, Cond.initialized RJ3, Cond.code yJ3_checkFromIndexSize_8c36e cJ3_checkFromIndexSize_8c36e 4 (some .int), Cond.methodLink RJ2 71 yJ2_getChar_3b067, Cond.static yJ2_getChar_3b067, Cond.code yJ2_getChar_3b067 cJ2_getChar_3b067 2 (some .char), Cond.fieldLink RJ2 44 "java/lang/StringUTF16" "$assertionsDisabled" "Z", Cond.fieldLink RJ2 59 "java/lang/StringUTF16" "HI_BYTE_SHIFT" "I", Cond.fieldLink RJ2 63 "java/lang/StringUTF16" "LO_BYTE_SHIFT" "I"]
def wsJ4_toString_0e30d_r5 : List Cond := [Cond.methodLink RJ2 11 yJ2_newBytesLength_0f7a4, Cond.static yJ2_newBytesLength_0f7a4, Cond.code yJ2_newBytesLength_0f7a4 cJ2_newBytesLength_0f7a4 1 (some .int), Cond.constant RJ2 20 (1073741823), Cond.methodLink RJ2 126 yJ7_copyOfRange_39247, Cond.methodLink RJ0 47 yJ2_coderFromArrayLen_85cad, Cond.static yJ2_coderFromArrayLen_85cad, Cond.code yJ2_coderFromArrayLen_85cad cJ2_coderFromArrayLen_85cad 2 (some .byte)]
def wsJ4_toString_0e30d : List Cond := .code yJ4_toString_0e30d cJ4_toString_0e30d 1 (some (.object "java/lang/String")) :: ((wsJ4_toString_0e30d_r1 ++ (wsJ4_toString_0e30d_r2 ++ (wsJ4_toString_0e30d_r3 ++ (wsJ4_toString_0e30d_r4 ++ wsJ4_toString_0e30d_r5)))) ++ wsJ00 ++ wsJ40)
def wsJx00060_init_d00df_r1 : List Cond := [Cond.classLink RJx00060 10 RJ4, Cond.instantiable RJ4 4, Cond.initialized RJ4, Cond.methodLink RJx00060 12 yJ4_init_da8c8, Cond.instanceMethod yJ4_init_da8c8, Cond.code yJ4_init_da8c8 cJ4_init_da8c8 1 none, Cond.methodLink RJ4 1 yJ5_init_d00df, Cond.instanceMethod yJ5_init_d00df, Cond.initialized RJ5, Cond.code yJ5_init_d00df cJ5_init_d00df 2 none, Cond.methodLink RJ5 3 objectInit, Cond.instanceMethod objectInit, Cond.code objectInit ⟨#[0xb1]⟩ 1 none, Cond.fieldLink RJ5 18 "java/lang/String" "COMPACT_STRINGS" "Z", Cond.arrayClass .byte, Cond.fieldLink RJ5 15 "java/lang/AbstractStringBuilder" "value" "[B", Cond.fieldLink RJ5 22 "java/lang/AbstractStringBuilder" "coder" "B", Cond.methodLink RJ5 26 yJ2_newBytesFor_77867, Cond.static yJ2_newBytesFor_77867, Cond.initialized RJ2, Cond.code yJ2_newBytesFor_77867 cJ2_newBytesFor_77867 1 (some (.array .byte)), Cond.methodLink RJ2 11 yJ2_newBytesLength_0f7a4, Cond.static yJ2_newBytesLength_0f7a4, Cond.code yJ2_newBytesLength_0f7a4 cJ2_newBytesLength_0f7a4 1 (some .int)]
def wsJx00060_init_d00df_r2 : List Cond := [Cond.constant RJ2 20 (1073741823), Cond.methodLink RJx00060 15 yJ4_append_15ec4, Cond.instanceMethod yJ4_append_15ec4, Cond.selects RJ4 yJ4_append_15ec4 yJ4_append_15ec4, Cond.code yJ4_append_15ec4 cJ4_append_15ec4 2 (some (.object "java/lang/StringBuilder")), Cond.methodLink RJ4 29 yJ5_append_cf1ce, Cond.sameMethod "java/lang/AbstractStringBuilder" "java/lang/AbstractStringBuilder" "append" "(Ljava/lang/String;)Ljava/lang/AbstractStringBuilder;", Cond.superclass RJ4 RJ5, Cond.instanceMethod yJ5_append_cf1ce, Cond.code yJ5_append_cf1ce cJ5_append_cf1ce 3 (some (.object "java/lang/AbstractStringBuilder")), Cond.fieldLink RJ5 79 "java/lang/AbstractStringBuilder" "count" "I", Cond.methodLink RJ5 204 ⟨"java/lang/AbstractStringBuilder", "appendNull", "()Ljava/lang/AbstractStringBuilder;"⟩, Cond.sameMethod "java/lang/AbstractStringBuilder" "java/lang/AbstractStringBuilder" "appendNull" "()Ljava/lang/AbstractStringBuilder;", Cond.selects RJ4 ⟨"java/lang/AbstractStringBuilder", "appendNull", "()Ljava/lang/AbstractStringBuilder;"⟩ yJ5_appendNull_278bc, Cond.instanceMethod yJ5_appendNull_278bc, Cond.code yJ5_appendNull_278bc cJ5_appendNull_278bc 3 (some (.object "java/lang/AbstractStringBuilder")), Cond.methodLink RJ5 100 ⟨"java/lang/AbstractStringBuilder", "ensureCapacityInternal", "(I)V"⟩, Cond.sameMethod "java/lang/AbstractStringBuilder" "java/lang/AbstractStringBuilder" "ensureCapacityInternal" "(I)V", Cond.selects RJ4 ⟨"java/lang/AbstractStringBuilder", "ensureCapacityInternal", "(I)V"⟩ yJ5_ensureCapacityInternal_d00df, Cond.instanceMethod yJ5_ensureCapacityInternal_d00df, Cond.code yJ5_ensureCapacityInternal_d00df cJ5_ensureCapacityInternal_d00df 3 none, Cond.methodLink RJ5 104 ⟨"java/lang/AbstractStringBuilder", "newCapacity", "(I)I"⟩, Cond.sameMethod "java/lang/AbstractStringBuilder" "java/lang/AbstractStringBuilder" "newCapacity" "(I)I", Cond.selects RJ4 ⟨"java/lang/AbstractStringBuilder", "newCapacity", "(I)I"⟩ yJ5_newCapacity_0f7a4]
def wsJx00060_init_d00df_r3 : List Cond := [Cond.instanceMethod yJ5_newCapacity_0f7a4, Cond.code yJ5_newCapacity_0f7a4 cJ5_newCapacity_0f7a4 6 (some .int), Cond.constant RJ5 39 (2147483647), Cond.methodLink RJ5 114 yJ8_newLength_cabcc, Cond.static yJ8_newLength_cabcc, Cond.initialized RJ8, Cond.code yJ8_newLength_cabcc cJ8_newLength_cabcc 4 (some .int), Cond.methodLink RJ8 194 Lib.Math.max.name, Cond.static Lib.Math.max.name, Cond.initialized "java/lang/Math", Cond.code Lib.Math.max.name Lib.Math.max.code 2 (some .int), Cond.constant RJ8 200 (2147483639), Cond.methodLink RJ8 201 yJ8_hugeLength_7cf53, Cond.static yJ8_hugeLength_7cf53, Cond.code yJ8_hugeLength_7cf53 cJ8_hugeLength_7cf53 3 (some .int), Cond.methodLink RJ5 108 yJ7_copyOf_9075b, Cond.static yJ7_copyOf_9075b, Cond.initialized RJ7, Cond.code yJ7_copyOf_9075b cJ7_copyOf_9075b 3 (some (.array .byte)), Cond.methodLink RJ7 310 ⟨"[B", "clone", "()Ljava/lang/Object;"⟩, Cond.sameMethod "[B" "java/lang/Object" "clone" "()Ljava/lang/Object;", Cond.native ⟨"java/lang/Object", "clone", "()Ljava/lang/Object;"⟩, Cond.instanceMethod ⟨"java/lang/Object", "clone", "()Ljava/lang/Object;"⟩, Cond.selects "[B" ⟨"[B", "clone", "()Ljava/lang/Object;"⟩ ⟨"java/lang/Object", "clone", "()Ljava/lang/Object;"⟩]
def wsJx00060_init_d00df_r4 : List Cond := [Cond.classLink RJ7 311 "[B", Cond.methodLink RJ7 304 Lib.Math.min.name, Cond.static Lib.Math.min.name, Cond.code Lib.Math.min.name Lib.Math.min.code 2 (some .int), Cond.methodLink RJ7 150 arraycopyName, Cond.native arraycopyName, Cond.static arraycopyName, Cond.initialized "java/lang/System", Cond.methodLink RJ5 83 ⟨"java/lang/AbstractStringBuilder", "isLatin1", "()Z"⟩, Cond.sameMethod "java/lang/AbstractStringBuilder" "java/lang/AbstractStringBuilder" "isLatin1" "()Z", Cond.selects RJ4 ⟨"java/lang/AbstractStringBuilder", "isLatin1", "()Z"⟩ yJ5_isLatin1_aae02, Cond.instanceMethod yJ5_isLatin1_aae02, Cond.code yJ5_isLatin1_aae02 cJ5_isLatin1_aae02 1 (some .boolean), Cond.methodLink RJ5 226 yJ2_putCharsAt_cd4e5, Cond.static yJ2_putCharsAt_cd4e5, Cond.code yJ2_putCharsAt_cd4e5 cJ2_putCharsAt_cd4e5 7 (some .int), Cond.fieldLink RJ2 44 "java/lang/StringUTF16" "$assertionsDisabled" "Z", Cond.methodLink RJ2 96 yJ2_checkBoundsBeginEnd_d044e, Cond.static yJ2_checkBoundsBeginEnd_d044e, Cond.code yJ2_checkBoundsBeginEnd_d044e cJ2_checkBoundsBeginEnd_d044e 3 none, Cond.methodLink RJ2 48 yJ2_length_9d52b, Cond.static yJ2_length_9d52b, Cond.code yJ2_length_9d52b cJ2_length_9d52b 1 (some .int), Cond.methodLink RJ2 241 yJ0_checkBoundsBeginEnd_23922]
def wsJx00060_init_d00df_r5 : List Cond := [Cond.static yJ0_checkBoundsBeginEnd_23922, Cond.initialized RJ0, Cond.code yJ0_checkBoundsBeginEnd_23922 cJ0_checkBoundsBeginEnd_23922 3 none, Cond.fieldLink RJ0 1053 "jdk/internal/util/Preconditions" "SIOOBE_FORMATTER" "Ljava/util/function/BiFunction;", Cond.methodLink RJ0 1062 yJ3_checkFromToIndex_8c36e, Cond.static yJ3_checkFromToIndex_8c36e, Cond.initialized RJ3, Cond.code yJ3_checkFromToIndex_8c36e cJ3_checkFromToIndex_8c36e 4 (some .int), Cond.methodLink RJ2 111 yJ2_putChar_b72d1, Cond.static yJ2_putChar_b72d1, Cond.code yJ2_putChar_b72d1 cJ2_putChar_b72d1 3 none, Cond.fieldLink RJ2 59 "java/lang/StringUTF16" "HI_BYTE_SHIFT" "I", Cond.fieldLink RJ2 63 "java/lang/StringUTF16" "LO_BYTE_SHIFT" "I", Cond.methodLink RJ5 32 yJ0_length_8abf5, Cond.instanceMethod yJ0_length_8abf5, Cond.selects RJ0 yJ0_length_8abf5 yJ0_length_8abf5, Cond.code yJ0_length_8abf5 cJ0_length_8abf5 1 (some .int), Cond.fieldLink RJ0 9 "java/lang/String" "value" "[B", Cond.methodLink RJ0 335 yJ0_coder_7d493, Cond.instanceMethod yJ0_coder_7d493, Cond.selects RJ0 yJ0_coder_7d493 yJ0_coder_7d493, Cond.code yJ0_coder_7d493 cJ0_coder_7d493 1 (some .byte), Cond.fieldLink RJ0 38 "java/lang/String" "COMPACT_STRINGS" "Z", Cond.fieldLink RJ0 15 "java/lang/String" "coder" "B"]
def wsJx00060_init_d00df_r6 : List Cond := [Cond.methodLink RJ5 208 ⟨"java/lang/AbstractStringBuilder", "putStringAt", "(ILjava/lang/String;)V"⟩, Cond.sameMethod "java/lang/AbstractStringBuilder" "java/lang/AbstractStringBuilder" "putStringAt" "(ILjava/lang/String;)V", Cond.selects RJ4 ⟨"java/lang/AbstractStringBuilder", "putStringAt", "(ILjava/lang/String;)V"⟩ yJ5_putStringAt_47b60, Cond.instanceMethod yJ5_putStringAt_47b60, Cond.code yJ5_putStringAt_47b60 cJ5_putStringAt_47b60 3 none, Cond.methodLink RJ5 397 ⟨"java/lang/AbstractStringBuilder", "inflateIfNeededFor", "(Ljava/lang/String;)V"⟩, Cond.sameMethod "java/lang/AbstractStringBuilder" "java/lang/AbstractStringBuilder" "inflateIfNeededFor" "(Ljava/lang/String;)V", Cond.selects RJ4 ⟨"java/lang/AbstractStringBuilder", "inflateIfNeededFor", "(Ljava/lang/String;)V"⟩ yJ5_inflateIfNeededFor_a7421, Cond.instanceMethod yJ5_inflateIfNeededFor_a7421, Cond.code yJ5_inflateIfNeededFor_a7421 cJ5_inflateIfNeededFor_a7421 2 none, Cond.methodLink RJ5 40 yJ0_coder_7d493, Cond.methodLink RJ5 195 ⟨"java/lang/AbstractStringBuilder", "inflate", "()V"⟩, Cond.sameMethod "java/lang/AbstractStringBuilder" "java/lang/AbstractStringBuilder" "inflate" "()V", Cond.selects RJ4 ⟨"java/lang/AbstractStringBuilder", "inflate", "()V"⟩ yJ5_inflate_da8c8, Cond.instanceMethod yJ5_inflate_da8c8, Cond.code yJ5_inflate_da8c8 cJ5_inflate_da8c8 2 none, Cond.methodLink RJ5 125 yJ1_inflate_0e8fd, Cond.static yJ1_inflate_0e8fd, Cond.initialized RJ1, Cond.code yJ1_inflate_0e8fd cJ1_inflate_0e8fd 5 none, Cond.methodLink RJ1 240 yJ2_inflate_0e8fd, Cond.static yJ2_inflate_0e8fd, Cond.code yJ2_inflate_0e8fd cJ2_inflate_0e8fd 6 none, Cond.methodLink RJ2 173 yJ2_checkBoundsOffCount_d044e]
def wsJx00060_init_d00df_r7 : List Cond := [Cond.static yJ2_checkBoundsOffCount_d044e, Cond.code yJ2_checkBoundsOffCount_d044e cJ2_checkBoundsOffCount_d044e 3 none, Cond.methodLink RJ2 419 yJ0_checkBoundsOffCount_cabcc, Cond.static yJ0_checkBoundsOffCount_cabcc, Cond.code yJ0_checkBoundsOffCount_cabcc cJ0_checkBoundsOffCount_cabcc 3 (some .int), Cond.methodLink RJ0 1065 yJ3_checkFromIndexSize_8c36e, Cond.static yJ3_checkFromIndexSize_8c36e, Cond.code yJ3_checkFromIndexSize_8c36e cJ3_checkFromIndexSize_8c36e 4 (some .int), Cond.methodLink RJ5 399 yJ0_getBytes_840e7, Cond.instanceMethod yJ0_getBytes_840e7, Cond.selects RJ0 yJ0_getBytes_840e7 yJ0_getBytes_840e7, Cond.code yJ0_getBytes_840e7 cJ0_getBytes_840e7 4 none, Cond.methodLink RJ0 212 arraycopyName, Cond.methodLink RJ0 106 yJ1_inflate_0e8fd, Cond.methodLink RJx00060 19 yJ4_append_bf812, Cond.instanceMethod yJ4_append_bf812, Cond.selects RJ4 yJ4_append_bf812 yJ4_append_bf812, Cond.code yJ4_append_bf812 cJ4_append_bf812 2 (some (.object "java/lang/StringBuilder")), Cond.methodLink RJ4 53 yJ5_append_c97b9, Cond.sameMethod "java/lang/AbstractStringBuilder" "java/lang/AbstractStringBuilder" "append" "(I)Ljava/lang/AbstractStringBuilder;", Cond.instanceMethod yJ5_append_c97b9, Cond.code yJ5_append_c97b9 cJ5_append_c97b9 4 (some (.object "java/lang/AbstractStringBuilder")), Cond.methodLink RJ5 245 yJ6_stringSize_0f7a4, Cond.static yJ6_stringSize_0f7a4]
def wsJx00060_init_d00df_r8 : List Cond := [Cond.initialized RJ6, Cond.code yJ6_stringSize_0f7a4 cJ6_stringSize_0f7a4 4 (some .int), Cond.methodLink RJ5 248 yJ6_getChars_ba4f3, Cond.static yJ6_getChars_ba4f3, Cond.code yJ6_getChars_ba4f3 cJ6_getChars_ba4f3 7 (some .int), Cond.fieldLink RJ6 83 "java/lang/Integer" "DigitOnes" "[B", Cond.fieldLink RJ6 87 "java/lang/Integer" "DigitTens" "[B", Cond.methodLink RJ5 251 yJ2_getChars_46870, Cond.static yJ2_getChars_46870, Cond.code yJ2_getChars_46870 cJ2_getChars_46870 5 (some .int), Cond.methodLink RJ2 393 yJ2_getChars_ba4f3, Cond.static yJ2_getChars_ba4f3, Cond.code yJ2_getChars_ba4f3 cJ2_getChars_ba4f3 7 (some .int), Cond.fieldLink RJ2 403 "java/lang/Integer" "DigitOnes" "[B", Cond.fieldLink RJ2 407 "java/lang/Integer" "DigitTens" "[B", Cond.methodLink RJx00060 22 yJ4_toString_0e30d, Cond.instanceMethod yJ4_toString_0e30d, Cond.selects RJ4 yJ4_toString_0e30d yJ4_toString_0e30d, Cond.code yJ4_toString_0e30d cJ4_toString_0e30d 1 (some (.object "java/lang/String")), Cond.classLink RJ4 18 RJ0, Cond.instantiable RJ0 4, Cond.methodLink RJ4 137 yJ0_init_81219, Cond.instanceMethod yJ0_init_81219, Cond.code yJ0_init_81219 cJ0_init_81219 2 none]
def wsJx00060_init_d00df_r9 : List Cond := [Cond.methodLink RJ0 489 yJ0_init_db425, Cond.instanceMethod yJ0_init_db425, Cond.code yJ0_init_db425 cJ0_init_db425 5 none, Cond.methodLink RJ0 1 objectInit, Cond.fieldLink RJ0 1048 "java/lang/AbstractStringBuilder" "maybeLatin1" "Z", Cond.methodLink RJ0 552 ⟨"java/lang/AbstractStringBuilder", "getValue", "()[B"⟩, Cond.sameMethod "java/lang/AbstractStringBuilder" "java/lang/AbstractStringBuilder" "getValue" "()[B", Cond.selects RJ4 ⟨"java/lang/AbstractStringBuilder", "getValue", "()[B"⟩ yJ5_getValue_6d5f1, Cond.instanceMethod yJ5_getValue_6d5f1, Cond.code yJ5_getValue_6d5f1 cJ5_getValue_6d5f1 1 (some (.array .byte)), Cond.methodLink RJ0 549 ⟨"java/lang/AbstractStringBuilder", "length", "()I"⟩, Cond.sameMethod "java/lang/AbstractStringBuilder" "java/lang/AbstractStringBuilder" "length" "()I", Cond.instanceMethod ⟨"java/lang/AbstractStringBuilder", "length", "()I"⟩, Cond.selects RJ4 ⟨"java/lang/AbstractStringBuilder", "length", "()I"⟩ yJ4_length_8abf5, Cond.instanceMethod yJ4_length_8abf5, Cond.code yJ4_length_8abf5 cJ4_length_8abf5 1 (some .int), Cond.methodLink RJ4 343 yJ5_length_8abf5, Cond.instanceMethod yJ5_length_8abf5, Cond.code yJ5_length_8abf5 cJ5_length_8abf5 1 (some .int), Cond.methodLink RJ0 1047 ⟨"java/lang/AbstractStringBuilder", "isLatin1", "()Z"⟩, Cond.methodLink RJ0 54 yJ7_copyOfRange_39247, Cond.static yJ7_copyOfRange_39247, Cond.code yJ7_copyOfRange_39247 cJ7_copyOfRange_39247 3 (some (.array .byte)), Cond.methodLink RJ7 339 yJ7_copyOfRangeByte_39247]
def wsJx00060_init_d00df_r10 : List Cond := [Cond.static yJ7_copyOfRangeByte_39247, Cond.code yJ7_copyOfRangeByte_39247 cJ7_copyOfRangeByte_39247 5 (some (.array .byte)), Cond.methodLink RJ7 343 yJ7_checkLength_df160, Cond.static yJ7_checkLength_df160, Cond.code yJ7_checkLength_df160 cJ7_checkLength_df160 2 none, Cond.classLink RJ7 45 RJ4, Cond.methodLink RJ0 1051 yJ2_compress_39247, Cond.static yJ2_compress_39247, Cond.code yJ2_compress_39247 cJ2_compress_39247 6 (some (.array .byte)), Cond.methodLink RJ2 123 yJ2_compress_5af95, Cond.static yJ2_compress_5af95, Cond.code yJ2_compress_5af95 cJ2_compress_5af95 7 (some .int), Cond.methodLink RJ2 71 yJ2_getChar_3b067, Cond.static yJ2_getChar_3b067, Cond.code yJ2_getChar_3b067 cJ2_getChar_3b067 2 (some .char), Cond.methodLink RJ2 126 yJ7_copyOfRange_39247, Cond.methodLink RJ0 47 yJ2_coderFromArrayLen_85cad, Cond.static yJ2_coderFromArrayLen_85cad, Cond.code yJ2_coderFromArrayLen_85cad cJ2_coderFromArrayLen_85cad 2 (some .byte)]
def wsJx00060_init_d00df : List Cond := .code yJx00060_init_d00df cJx00060_init_d00df 2 none :: ((wsJx00060_init_d00df_r1 ++ (wsJx00060_init_d00df_r2 ++ (wsJx00060_init_d00df_r3 ++ (wsJx00060_init_d00df_r4 ++ (wsJx00060_init_d00df_r5 ++ (wsJx00060_init_d00df_r6 ++ (wsJx00060_init_d00df_r7 ++ (wsJx00060_init_d00df_r8 ++ (wsJx00060_init_d00df_r9 ++ wsJx00060_init_d00df_r10))))))))) ++ wsJ40 ++ wsJ00)
def wsJ9_max_7cf53 : List Cond := .code yJ9_max_7cf53 cJ9_max_7cf53 2 (some .int) :: ([])
def wsJ9_min_7cf53 : List Cond := .code yJ9_min_7cf53 cJ9_min_7cf53 2 (some .int) :: ([])
def wsL_ask_r1 : List Cond := [Cond.classLink RL 13 "java/lang/IllegalArgumentException", Cond.methodLink RL 7 yX0_ask, Cond.instanceMethod yX0_ask, Cond.selects RX0 yX0_ask yX0_ask, Cond.initialized RX0, Cond.code yX0_ask cX0_ask 4 (some .int), Cond.methodLink RX0 48 yX0_checkBlockLength, Cond.static yX0_checkBlockLength, Cond.code yX0_checkBlockLength cX0_checkBlockLength 1 none, Cond.classLink RX0 104 "java/lang/IllegalArgumentException", Cond.initialized "java/lang/IllegalArgumentException", Cond.methodLink RX0 52 yX0_leastUnused, Cond.instanceMethod yX0_leastUnused, Cond.selects RX0 yX0_leastUnused yX0_leastUnused, Cond.code yX0_leastUnused cX0_leastUnused 2 (some .int), Cond.fieldLink RX0 13 "HandleHeap" "begin" "[I", Cond.methodLink RX0 56 yX0_makeBlock, Cond.instanceMethod yX0_makeBlock, Cond.selects RX0 yX0_makeBlock yX0_makeBlock, Cond.code yX0_makeBlock cX0_makeBlock 5 (some .boolean), Cond.fieldLink RX0 25 "HandleHeap" "isFixed" "[Z", Cond.fieldLink RX0 29 "HandleHeap" "isLocked" "[Z", Cond.fieldLink RX0 32 "HandleHeap" "isLosable" "[Z", Cond.methodLink RX0 159 yX0_findRoom]
def wsL_ask_r2 : List Cond := [Cond.instanceMethod yX0_findRoom, Cond.selects RX0 yX0_findRoom yX0_findRoom, Cond.code yX0_findRoom cX0_findRoom 5 (some .int), Cond.methodLink RX0 177 yX0_firstGapOf, Cond.instanceMethod yX0_firstGapOf, Cond.selects RX0 yX0_firstGapOf yX0_firstGapOf, Cond.code yX0_firstGapOf cX0_firstGapOf 3 (some .int), Cond.fieldLink RX0 38 "HandleHeap" "blocks" "I", Cond.methodLink RX0 150 yX0_gapLength, Cond.instanceMethod yX0_gapLength, Cond.selects RX0 yX0_gapLength yX0_gapLength, Cond.code yX0_gapLength cX0_gapLength 3 (some .int), Cond.fieldLink RX0 35 "HandleHeap" "row" "[I", Cond.methodLink RX0 147 yX0_gapBegin, Cond.instanceMethod yX0_gapBegin, Cond.selects RX0 yX0_gapBegin yX0_gapBegin, Cond.code yX0_gapBegin cX0_gapBegin 2 (some .int), Cond.methodLink RX0 120 yX0_endOf, Cond.instanceMethod yX0_endOf, Cond.selects RX0 yX0_endOf yX0_endOf, Cond.code yX0_endOf cX0_endOf 2 (some .int), Cond.fieldLink RX0 22 "HandleHeap" "length" "[I", Cond.methodLink RX0 98 yX0_slideTogether, Cond.instanceMethod yX0_slideTogether]
def wsL_ask_r3 : List Cond := [Cond.selects RX0 yX0_slideTogether yX0_slideTogether, Cond.code yX0_slideTogether cX0_slideTogether 4 none, Cond.methodLink RX0 74 yX0_isMovable, Cond.instanceMethod yX0_isMovable, Cond.selects RX0 yX0_isMovable yX0_isMovable, Cond.code yX0_isMovable cX0_isMovable 2 (some .boolean), Cond.methodLink RX0 95 yX0_moveTo, Cond.instanceMethod yX0_moveTo, Cond.selects RX0 yX0_moveTo yX0_moveTo, Cond.code yX0_moveTo cX0_moveTo 3 none, Cond.fieldLink RX0 9 "HandleHeap" "heap" "[I", Cond.methodLink RX0 171 arraycopyName, Cond.native arraycopyName, Cond.static arraycopyName, Cond.initialized "java/lang/System", Cond.fieldLink RX0 42 "HandleHeap" "bytesMoved" "I", Cond.methodLink RX0 109 yX0_giveUpFirst, Cond.instanceMethod yX0_giveUpFirst, Cond.selects RX0 yX0_giveUpFirst yX0_giveUpFirst, Cond.code yX0_giveUpFirst cX0_giveUpFirst 4 (some .boolean), Cond.methodLink RX0 85 yX0_giveUp, Cond.instanceMethod yX0_giveUp, Cond.selects RX0 yX0_giveUp yX0_giveUp, Cond.code yX0_giveUp cX0_giveUp 2 none]
def wsL_ask_r4 : List Cond := [Cond.fieldLink RX0 45 "HandleHeap" "blocksLost" "I", Cond.methodLink RX0 63 yX0_takeBlock, Cond.instanceMethod yX0_takeBlock, Cond.selects RX0 yX0_takeBlock yX0_takeBlock, Cond.code yX0_takeBlock cX0_takeBlock 3 none, Cond.methodLink RX0 165 yX0_leaveRow, Cond.instanceMethod yX0_leaveRow, Cond.selects RX0 yX0_leaveRow yX0_leaveRow, Cond.code yX0_leaveRow cX0_leaveRow 4 none, Cond.methodLink RX0 71 yX0_setLength, Cond.instanceMethod yX0_setLength, Cond.selects RX0 yX0_setLength yX0_setLength, Cond.code yX0_setLength cX0_setLength 3 none, Cond.methodLink RX0 168 yJ7_fill_fda19, Cond.static yJ7_fill_fda19, Cond.initialized RJ7, Cond.code yJ7_fill_fda19 cJ7_fill_fda19 5 none, Cond.methodLink RJ7 13 yJ7_rangeCheck_23922, Cond.static yJ7_rangeCheck_23922, Cond.code yJ7_rangeCheck_23922 cJ7_rangeCheck_23922 3 none, Cond.classLink RJ7 45 RJ4, Cond.instantiable RJ4 4, Cond.initialized RJ4, Cond.classLink RJ7 68 RJx00060]
def wsL_ask_r5 : List Cond := [Cond.instantiable RJx00060 6, Cond.initialized RJx00060, Cond.methodLink RX0 162 yX0_enterRow, Cond.instanceMethod yX0_enterRow, Cond.selects RX0 yX0_enterRow yX0_enterRow, Cond.code yX0_enterRow cX0_enterRow 3 none]
def wsL_ask : List Cond := .codeWith yL_ask cL_ask 5 (some .int) [(0, 10, 13, 13)] :: ((wsL_ask_r1 ++ (wsL_ask_r2 ++ (wsL_ask_r3 ++ (wsL_ask_r4 ++ wsL_ask_r5)))) ++ wsX00 ++ wsJ40 ++ wsJx000600 ++ (vx_atM "java/lang/ArrayIndexOutOfBoundsException" ["java/lang/IndexOutOfBoundsException", "java/lang/RuntimeException", "java/lang/Exception"]).filter goodWord ++ (vx_atS RX0 108 "java/lang/IllegalArgumentException" ["java/lang/RuntimeException", "java/lang/Exception"]).filter goodWord)
def wsL_drop_r1 : List Cond := [Cond.classLink RL 13 "java/lang/IllegalArgumentException", Cond.methodLink RL 15 yX0_drop, Cond.instanceMethod yX0_drop, Cond.selects RX0 yX0_drop yX0_drop, Cond.initialized RX0, Cond.code yX0_drop cX0_drop 3 (some .int), Cond.fieldLink RX0 22 "HandleHeap" "length" "[I", Cond.methodLink RX0 60 yX0_checkInUse, Cond.instanceMethod yX0_checkInUse, Cond.selects RX0 yX0_checkInUse yX0_checkInUse, Cond.code yX0_checkInUse cX0_checkInUse 2 none, Cond.classLink RX0 104 "java/lang/IllegalArgumentException", Cond.initialized "java/lang/IllegalArgumentException", Cond.fieldLink RX0 13 "HandleHeap" "begin" "[I", Cond.methodLink RX0 112 yX0_checkHandle, Cond.static yX0_checkHandle, Cond.code yX0_checkHandle cX0_checkHandle 1 none, Cond.methodLink RX0 63 yX0_takeBlock, Cond.instanceMethod yX0_takeBlock, Cond.selects RX0 yX0_takeBlock yX0_takeBlock, Cond.code yX0_takeBlock cX0_takeBlock 3 none, Cond.methodLink RX0 165 yX0_leaveRow, Cond.instanceMethod yX0_leaveRow, Cond.selects RX0 yX0_leaveRow yX0_leaveRow]
def wsL_drop_r2 : List Cond := [Cond.code yX0_leaveRow cX0_leaveRow 4 none, Cond.fieldLink RX0 38 "HandleHeap" "blocks" "I", Cond.fieldLink RX0 35 "HandleHeap" "row" "[I"]
def wsL_drop : List Cond := .codeWith yL_drop cL_drop 4 (some .int) [(0, 9, 12, 13)] :: ((wsL_drop_r1 ++ wsL_drop_r2) ++ wsX00 ++ (vx_atM "java/lang/ArrayIndexOutOfBoundsException" ["java/lang/IndexOutOfBoundsException", "java/lang/RuntimeException", "java/lang/Exception"]).filter goodWord ++ (vx_atS RX0 108 "java/lang/IllegalArgumentException" ["java/lang/RuntimeException", "java/lang/Exception"]).filter goodWord)
def wsL_resize_r1 : List Cond := [Cond.classLink RL 13 "java/lang/IllegalArgumentException", Cond.methodLink RL 19 yX0_resize, Cond.instanceMethod yX0_resize, Cond.selects RX0 yX0_resize yX0_resize, Cond.initialized RX0, Cond.code yX0_resize cX0_resize 3 (some .boolean), Cond.fieldLink RX0 13 "HandleHeap" "begin" "[I", Cond.fieldLink RX0 22 "HandleHeap" "length" "[I", Cond.methodLink RX0 60 yX0_checkInUse, Cond.instanceMethod yX0_checkInUse, Cond.selects RX0 yX0_checkInUse yX0_checkInUse, Cond.code yX0_checkInUse cX0_checkInUse 2 none, Cond.classLink RX0 104 "java/lang/IllegalArgumentException", Cond.initialized "java/lang/IllegalArgumentException", Cond.methodLink RX0 112 yX0_checkHandle, Cond.static yX0_checkHandle, Cond.code yX0_checkHandle cX0_checkHandle 1 none, Cond.methodLink RX0 48 yX0_checkBlockLength, Cond.static yX0_checkBlockLength, Cond.code yX0_checkBlockLength cX0_checkBlockLength 1 none, Cond.methodLink RX0 56 yX0_makeBlock, Cond.instanceMethod yX0_makeBlock, Cond.selects RX0 yX0_makeBlock yX0_makeBlock, Cond.code yX0_makeBlock cX0_makeBlock 5 (some .boolean)]
def wsL_resize_r2 : List Cond := [Cond.fieldLink RX0 25 "HandleHeap" "isFixed" "[Z", Cond.fieldLink RX0 29 "HandleHeap" "isLocked" "[Z", Cond.fieldLink RX0 32 "HandleHeap" "isLosable" "[Z", Cond.methodLink RX0 159 yX0_findRoom, Cond.instanceMethod yX0_findRoom, Cond.selects RX0 yX0_findRoom yX0_findRoom, Cond.code yX0_findRoom cX0_findRoom 5 (some .int), Cond.methodLink RX0 177 yX0_firstGapOf, Cond.instanceMethod yX0_firstGapOf, Cond.selects RX0 yX0_firstGapOf yX0_firstGapOf, Cond.code yX0_firstGapOf cX0_firstGapOf 3 (some .int), Cond.fieldLink RX0 38 "HandleHeap" "blocks" "I", Cond.methodLink RX0 150 yX0_gapLength, Cond.instanceMethod yX0_gapLength, Cond.selects RX0 yX0_gapLength yX0_gapLength, Cond.code yX0_gapLength cX0_gapLength 3 (some .int), Cond.fieldLink RX0 35 "HandleHeap" "row" "[I", Cond.methodLink RX0 147 yX0_gapBegin, Cond.instanceMethod yX0_gapBegin, Cond.selects RX0 yX0_gapBegin yX0_gapBegin, Cond.code yX0_gapBegin cX0_gapBegin 2 (some .int), Cond.methodLink RX0 120 yX0_endOf, Cond.instanceMethod yX0_endOf, Cond.selects RX0 yX0_endOf yX0_endOf]
def wsL_resize_r3 : List Cond := [Cond.code yX0_endOf cX0_endOf 2 (some .int), Cond.methodLink RX0 98 yX0_slideTogether, Cond.instanceMethod yX0_slideTogether, Cond.selects RX0 yX0_slideTogether yX0_slideTogether, Cond.code yX0_slideTogether cX0_slideTogether 4 none, Cond.methodLink RX0 74 yX0_isMovable, Cond.instanceMethod yX0_isMovable, Cond.selects RX0 yX0_isMovable yX0_isMovable, Cond.code yX0_isMovable cX0_isMovable 2 (some .boolean), Cond.methodLink RX0 95 yX0_moveTo, Cond.instanceMethod yX0_moveTo, Cond.selects RX0 yX0_moveTo yX0_moveTo, Cond.code yX0_moveTo cX0_moveTo 3 none, Cond.fieldLink RX0 9 "HandleHeap" "heap" "[I", Cond.methodLink RX0 171 arraycopyName, Cond.native arraycopyName, Cond.static arraycopyName, Cond.initialized "java/lang/System", Cond.fieldLink RX0 42 "HandleHeap" "bytesMoved" "I", Cond.methodLink RX0 109 yX0_giveUpFirst, Cond.instanceMethod yX0_giveUpFirst, Cond.selects RX0 yX0_giveUpFirst yX0_giveUpFirst, Cond.code yX0_giveUpFirst cX0_giveUpFirst 4 (some .boolean), Cond.methodLink RX0 85 yX0_giveUp]
def wsL_resize_r4 : List Cond := [Cond.instanceMethod yX0_giveUp, Cond.selects RX0 yX0_giveUp yX0_giveUp, Cond.code yX0_giveUp cX0_giveUp 2 none, Cond.fieldLink RX0 45 "HandleHeap" "blocksLost" "I", Cond.methodLink RX0 63 yX0_takeBlock, Cond.instanceMethod yX0_takeBlock, Cond.selects RX0 yX0_takeBlock yX0_takeBlock, Cond.code yX0_takeBlock cX0_takeBlock 3 none, Cond.methodLink RX0 165 yX0_leaveRow, Cond.instanceMethod yX0_leaveRow, Cond.selects RX0 yX0_leaveRow yX0_leaveRow, Cond.code yX0_leaveRow cX0_leaveRow 4 none, Cond.methodLink RX0 71 yX0_setLength, Cond.instanceMethod yX0_setLength, Cond.selects RX0 yX0_setLength yX0_setLength, Cond.code yX0_setLength cX0_setLength 3 none, Cond.methodLink RX0 168 yJ7_fill_fda19, Cond.static yJ7_fill_fda19, Cond.initialized RJ7, Cond.code yJ7_fill_fda19 cJ7_fill_fda19 5 none, Cond.methodLink RJ7 13 yJ7_rangeCheck_23922, Cond.static yJ7_rangeCheck_23922, Cond.code yJ7_rangeCheck_23922 cJ7_rangeCheck_23922 3 none, Cond.classLink RJ7 45 RJ4]
def wsL_resize_r5 : List Cond := [Cond.instantiable RJ4 4, Cond.initialized RJ4, Cond.classLink RJ7 68 RJx00060, Cond.instantiable RJx00060 6, Cond.initialized RJx00060, Cond.methodLink RX0 162 yX0_enterRow, Cond.instanceMethod yX0_enterRow, Cond.selects RX0 yX0_enterRow yX0_enterRow, Cond.code yX0_enterRow cX0_enterRow 3 none, Cond.methodLink RX0 67 yX0_freeBehind, Cond.instanceMethod yX0_freeBehind, Cond.selects RX0 yX0_freeBehind yX0_freeBehind, Cond.code yX0_freeBehind cX0_freeBehind 3 (some .int), Cond.methodLink RX0 78 yX0_growElsewhere, Cond.instanceMethod yX0_growElsewhere, Cond.selects RX0 yX0_growElsewhere yX0_growElsewhere, Cond.code yX0_growElsewhere cX0_growElsewhere 4 (some .boolean)]
def wsL_resize : List Cond := .codeWith yL_resize cL_resize 5 (some .int) [(0, 17, 20, 13)] :: ((wsL_resize_r1 ++ (wsL_resize_r2 ++ (wsL_resize_r3 ++ (wsL_resize_r4 ++ wsL_resize_r5)))) ++ wsX00 ++ wsJ40 ++ wsJx000600 ++ (vx_atM "java/lang/ArrayIndexOutOfBoundsException" ["java/lang/IndexOutOfBoundsException", "java/lang/RuntimeException", "java/lang/Exception"]).filter goodWord ++ (vx_atS RX0 108 "java/lang/IllegalArgumentException" ["java/lang/RuntimeException", "java/lang/Exception"]).filter goodWord)
def wsL_lock : List Cond := .codeWith yL_lock cL_lock 5 (some .int) [(0, 17, 20, 13), (0, 17, 24, 27)] :: ([.classLink RL 13 "java/lang/IllegalArgumentException", .classLink RL 27 "java/lang/IllegalStateException", .methodLink RL 23 yX0_lock, .instanceMethod yX0_lock, .selects RX0 yX0_lock yX0_lock, .initialized RX0, .code yX0_lock cX0_lock 4 (some .boolean), .fieldLink RX0 29 "HandleHeap" "isLocked" "[Z", .methodLink RX0 82 yX0_checkHasBlock, .instanceMethod yX0_checkHasBlock, .selects RX0 yX0_checkHasBlock yX0_checkHasBlock, .code yX0_checkHasBlock cX0_checkHasBlock 2 none, .classLink RX0 88 "java/lang/IllegalStateException", .initialized "java/lang/IllegalStateException", .fieldLink RX0 13 "HandleHeap" "begin" "[I", .methodLink RX0 60 yX0_checkInUse, .instanceMethod yX0_checkInUse, .selects RX0 yX0_checkInUse yX0_checkInUse, .code yX0_checkInUse cX0_checkInUse 2 none, .classLink RX0 104 "java/lang/IllegalArgumentException", .initialized "java/lang/IllegalArgumentException", .methodLink RX0 112 yX0_checkHandle, .static yX0_checkHandle, .code yX0_checkHandle cX0_checkHandle 1 none] ++ wsX00 ++ (vx_atM "java/lang/ArrayIndexOutOfBoundsException" ["java/lang/IndexOutOfBoundsException", "java/lang/RuntimeException", "java/lang/Exception"]).filter goodWord ++ (vx_atS RX0 92 "java/lang/IllegalStateException" ["java/lang/RuntimeException", "java/lang/Exception"]).filter goodWord ++ (vx_atS RX0 108 "java/lang/IllegalArgumentException" ["java/lang/RuntimeException", "java/lang/Exception"]).filter goodWord)
def wsL_losable : List Cond := .codeWith yL_losable cL_losable 5 (some .int) [(0, 17, 20, 13), (0, 17, 24, 27)] :: ([.classLink RL 13 "java/lang/IllegalArgumentException", .classLink RL 27 "java/lang/IllegalStateException", .methodLink RL 29 yX0_losable, .instanceMethod yX0_losable, .selects RX0 yX0_losable yX0_losable, .initialized RX0, .code yX0_losable cX0_losable 4 (some .boolean), .fieldLink RX0 32 "HandleHeap" "isLosable" "[Z", .methodLink RX0 82 yX0_checkHasBlock, .instanceMethod yX0_checkHasBlock, .selects RX0 yX0_checkHasBlock yX0_checkHasBlock, .code yX0_checkHasBlock cX0_checkHasBlock 2 none, .classLink RX0 88 "java/lang/IllegalStateException", .initialized "java/lang/IllegalStateException", .fieldLink RX0 13 "HandleHeap" "begin" "[I", .methodLink RX0 60 yX0_checkInUse, .instanceMethod yX0_checkInUse, .selects RX0 yX0_checkInUse yX0_checkInUse, .code yX0_checkInUse cX0_checkInUse 2 none, .classLink RX0 104 "java/lang/IllegalArgumentException", .initialized "java/lang/IllegalArgumentException", .methodLink RX0 112 yX0_checkHandle, .static yX0_checkHandle, .code yX0_checkHandle cX0_checkHandle 1 none] ++ wsX00 ++ (vx_atM "java/lang/ArrayIndexOutOfBoundsException" ["java/lang/IndexOutOfBoundsException", "java/lang/RuntimeException", "java/lang/Exception"]).filter goodWord ++ (vx_atS RX0 92 "java/lang/IllegalStateException" ["java/lang/RuntimeException", "java/lang/Exception"]).filter goodWord ++ (vx_atS RX0 108 "java/lang/IllegalArgumentException" ["java/lang/RuntimeException", "java/lang/Exception"]).filter goodWord)
def wsL_lose_r1 : List Cond := [Cond.classLink RL 13 "java/lang/IllegalArgumentException", Cond.classLink RL 27 "java/lang/IllegalStateException", Cond.methodLink RL 32 yX0_lose, Cond.instanceMethod yX0_lose, Cond.selects RX0 yX0_lose yX0_lose, Cond.initialized RX0, Cond.code yX0_lose cX0_lose 2 (some .boolean), Cond.methodLink RX0 82 yX0_checkHasBlock, Cond.instanceMethod yX0_checkHasBlock, Cond.selects RX0 yX0_checkHasBlock yX0_checkHasBlock, Cond.code yX0_checkHasBlock cX0_checkHasBlock 2 none, Cond.classLink RX0 88 "java/lang/IllegalStateException", Cond.initialized "java/lang/IllegalStateException", Cond.fieldLink RX0 13 "HandleHeap" "begin" "[I", Cond.methodLink RX0 60 yX0_checkInUse, Cond.instanceMethod yX0_checkInUse, Cond.selects RX0 yX0_checkInUse yX0_checkInUse, Cond.code yX0_checkInUse cX0_checkInUse 2 none, Cond.classLink RX0 104 "java/lang/IllegalArgumentException", Cond.initialized "java/lang/IllegalArgumentException", Cond.methodLink RX0 112 yX0_checkHandle, Cond.static yX0_checkHandle, Cond.code yX0_checkHandle cX0_checkHandle 1 none, Cond.methodLink RX0 74 yX0_isMovable]
def wsL_lose_r2 : List Cond := [Cond.instanceMethod yX0_isMovable, Cond.selects RX0 yX0_isMovable yX0_isMovable, Cond.code yX0_isMovable cX0_isMovable 2 (some .boolean), Cond.fieldLink RX0 25 "HandleHeap" "isFixed" "[Z", Cond.fieldLink RX0 29 "HandleHeap" "isLocked" "[Z", Cond.methodLink RX0 85 yX0_giveUp, Cond.instanceMethod yX0_giveUp, Cond.selects RX0 yX0_giveUp yX0_giveUp, Cond.code yX0_giveUp cX0_giveUp 2 none, Cond.fieldLink RX0 45 "HandleHeap" "blocksLost" "I", Cond.methodLink RX0 63 yX0_takeBlock, Cond.instanceMethod yX0_takeBlock, Cond.selects RX0 yX0_takeBlock yX0_takeBlock, Cond.code yX0_takeBlock cX0_takeBlock 3 none, Cond.fieldLink RX0 22 "HandleHeap" "length" "[I", Cond.methodLink RX0 165 yX0_leaveRow, Cond.instanceMethod yX0_leaveRow, Cond.selects RX0 yX0_leaveRow yX0_leaveRow, Cond.code yX0_leaveRow cX0_leaveRow 4 none, Cond.fieldLink RX0 38 "HandleHeap" "blocks" "I", Cond.fieldLink RX0 35 "HandleHeap" "row" "[I"]
def wsL_lose : List Cond := .codeWith yL_lose cL_lose 4 (some .int) [(0, 16, 19, 13), (0, 16, 22, 27)] :: ((wsL_lose_r1 ++ wsL_lose_r2) ++ wsX00 ++ (vx_atM "java/lang/ArrayIndexOutOfBoundsException" ["java/lang/IndexOutOfBoundsException", "java/lang/RuntimeException", "java/lang/Exception"]).filter goodWord ++ (vx_atS RX0 92 "java/lang/IllegalStateException" ["java/lang/RuntimeException", "java/lang/Exception"]).filter goodWord ++ (vx_atS RX0 108 "java/lang/IllegalArgumentException" ["java/lang/RuntimeException", "java/lang/Exception"]).filter goodWord)
def wsL_lift_r1 : List Cond := [Cond.classLink RL 13 "java/lang/IllegalArgumentException", Cond.classLink RL 27 "java/lang/IllegalStateException", Cond.methodLink RL 36 yX0_lift, Cond.instanceMethod yX0_lift, Cond.selects RX0 yX0_lift yX0_lift, Cond.initialized RX0, Cond.code yX0_lift cX0_lift 3 (some .int), Cond.classLink RX0 88 "java/lang/IllegalStateException", Cond.initialized "java/lang/IllegalStateException", Cond.fieldLink RX0 13 "HandleHeap" "begin" "[I", Cond.methodLink RX0 82 yX0_checkHasBlock, Cond.instanceMethod yX0_checkHasBlock, Cond.selects RX0 yX0_checkHasBlock yX0_checkHasBlock, Cond.code yX0_checkHasBlock cX0_checkHasBlock 2 none, Cond.methodLink RX0 60 yX0_checkInUse, Cond.instanceMethod yX0_checkInUse, Cond.selects RX0 yX0_checkInUse yX0_checkInUse, Cond.code yX0_checkInUse cX0_checkInUse 2 none, Cond.classLink RX0 104 "java/lang/IllegalArgumentException", Cond.initialized "java/lang/IllegalArgumentException", Cond.methodLink RX0 112 yX0_checkHandle, Cond.static yX0_checkHandle, Cond.code yX0_checkHandle cX0_checkHandle 1 none, Cond.methodLink RX0 74 yX0_isMovable]
def wsL_lift_r2 : List Cond := [Cond.instanceMethod yX0_isMovable, Cond.selects RX0 yX0_isMovable yX0_isMovable, Cond.code yX0_isMovable cX0_isMovable 2 (some .boolean), Cond.fieldLink RX0 25 "HandleHeap" "isFixed" "[Z", Cond.fieldLink RX0 29 "HandleHeap" "isLocked" "[Z", Cond.methodLink RX0 67 yX0_freeBehind, Cond.instanceMethod yX0_freeBehind, Cond.selects RX0 yX0_freeBehind yX0_freeBehind, Cond.code yX0_freeBehind cX0_freeBehind 3 (some .int), Cond.fieldLink RX0 38 "HandleHeap" "blocks" "I", Cond.fieldLink RX0 35 "HandleHeap" "row" "[I", Cond.methodLink RX0 150 yX0_gapLength, Cond.instanceMethod yX0_gapLength, Cond.selects RX0 yX0_gapLength yX0_gapLength, Cond.code yX0_gapLength cX0_gapLength 3 (some .int), Cond.methodLink RX0 147 yX0_gapBegin, Cond.instanceMethod yX0_gapBegin, Cond.selects RX0 yX0_gapBegin yX0_gapBegin, Cond.code yX0_gapBegin cX0_gapBegin 2 (some .int), Cond.methodLink RX0 120 yX0_endOf, Cond.instanceMethod yX0_endOf, Cond.selects RX0 yX0_endOf yX0_endOf, Cond.code yX0_endOf cX0_endOf 2 (some .int), Cond.fieldLink RX0 22 "HandleHeap" "length" "[I"]
def wsL_lift_r3 : List Cond := [Cond.methodLink RX0 95 yX0_moveTo, Cond.instanceMethod yX0_moveTo, Cond.selects RX0 yX0_moveTo yX0_moveTo, Cond.code yX0_moveTo cX0_moveTo 3 none, Cond.fieldLink RX0 9 "HandleHeap" "heap" "[I", Cond.methodLink RX0 171 arraycopyName, Cond.native arraycopyName, Cond.static arraycopyName, Cond.initialized "java/lang/System", Cond.fieldLink RX0 42 "HandleHeap" "bytesMoved" "I"]
def wsL_lift : List Cond := .codeWith yL_lift cL_lift 4 (some .int) [(0, 9, 12, 13), (0, 9, 15, 27)] :: ((wsL_lift_r1 ++ (wsL_lift_r2 ++ wsL_lift_r3)) ++ wsX00 ++ (vx_atM "java/lang/ArrayIndexOutOfBoundsException" ["java/lang/IndexOutOfBoundsException", "java/lang/RuntimeException", "java/lang/Exception"]).filter goodWord ++ (vx_atS RX0 92 "java/lang/IllegalStateException" ["java/lang/RuntimeException", "java/lang/Exception"]).filter goodWord ++ (vx_atS RX0 108 "java/lang/IllegalArgumentException" ["java/lang/RuntimeException", "java/lang/Exception"]).filter goodWord)
def wsL_clear_r1 : List Cond := [Cond.classLink RL 13 "java/lang/IllegalArgumentException", Cond.methodLink RL 39 yX0_clear, Cond.instanceMethod yX0_clear, Cond.selects RX0 yX0_clear yX0_clear, Cond.initialized RX0, Cond.code yX0_clear cX0_clear 3 (some .int), Cond.classLink RX0 104 "java/lang/IllegalArgumentException", Cond.initialized "java/lang/IllegalArgumentException", Cond.methodLink RX0 101 yX0_greatestGap, Cond.instanceMethod yX0_greatestGap, Cond.selects RX0 yX0_greatestGap yX0_greatestGap, Cond.code yX0_greatestGap cX0_greatestGap 3 (some .int), Cond.fieldLink RX0 38 "HandleHeap" "blocks" "I", Cond.methodLink RX0 153 Lib.Math.max.name, Cond.static Lib.Math.max.name, Cond.initialized "java/lang/Math", Cond.code Lib.Math.max.name Lib.Math.max.code 2 (some .int), Cond.methodLink RX0 150 yX0_gapLength, Cond.instanceMethod yX0_gapLength, Cond.selects RX0 yX0_gapLength yX0_gapLength, Cond.code yX0_gapLength cX0_gapLength 3 (some .int), Cond.fieldLink RX0 13 "HandleHeap" "begin" "[I", Cond.fieldLink RX0 35 "HandleHeap" "row" "[I", Cond.methodLink RX0 147 yX0_gapBegin]
def wsL_clear_r2 : List Cond := [Cond.instanceMethod yX0_gapBegin, Cond.selects RX0 yX0_gapBegin yX0_gapBegin, Cond.code yX0_gapBegin cX0_gapBegin 2 (some .int), Cond.methodLink RX0 120 yX0_endOf, Cond.instanceMethod yX0_endOf, Cond.selects RX0 yX0_endOf yX0_endOf, Cond.code yX0_endOf cX0_endOf 2 (some .int), Cond.fieldLink RX0 22 "HandleHeap" "length" "[I", Cond.methodLink RX0 109 yX0_giveUpFirst, Cond.instanceMethod yX0_giveUpFirst, Cond.selects RX0 yX0_giveUpFirst yX0_giveUpFirst, Cond.code yX0_giveUpFirst cX0_giveUpFirst 4 (some .boolean), Cond.fieldLink RX0 32 "HandleHeap" "isLosable" "[Z", Cond.methodLink RX0 74 yX0_isMovable, Cond.instanceMethod yX0_isMovable, Cond.selects RX0 yX0_isMovable yX0_isMovable, Cond.code yX0_isMovable cX0_isMovable 2 (some .boolean), Cond.fieldLink RX0 25 "HandleHeap" "isFixed" "[Z", Cond.fieldLink RX0 29 "HandleHeap" "isLocked" "[Z", Cond.methodLink RX0 85 yX0_giveUp, Cond.instanceMethod yX0_giveUp, Cond.selects RX0 yX0_giveUp yX0_giveUp, Cond.code yX0_giveUp cX0_giveUp 2 none, Cond.fieldLink RX0 45 "HandleHeap" "blocksLost" "I"]
def wsL_clear_r3 : List Cond := [Cond.methodLink RX0 63 yX0_takeBlock, Cond.instanceMethod yX0_takeBlock, Cond.selects RX0 yX0_takeBlock yX0_takeBlock, Cond.code yX0_takeBlock cX0_takeBlock 3 none, Cond.methodLink RX0 165 yX0_leaveRow, Cond.instanceMethod yX0_leaveRow, Cond.selects RX0 yX0_leaveRow yX0_leaveRow, Cond.code yX0_leaveRow cX0_leaveRow 4 none, Cond.methodLink RX0 98 yX0_slideTogether, Cond.instanceMethod yX0_slideTogether, Cond.selects RX0 yX0_slideTogether yX0_slideTogether, Cond.code yX0_slideTogether cX0_slideTogether 4 none, Cond.methodLink RX0 95 yX0_moveTo, Cond.instanceMethod yX0_moveTo, Cond.selects RX0 yX0_moveTo yX0_moveTo, Cond.code yX0_moveTo cX0_moveTo 3 none, Cond.fieldLink RX0 9 "HandleHeap" "heap" "[I", Cond.methodLink RX0 171 arraycopyName, Cond.native arraycopyName, Cond.static arraycopyName, Cond.initialized "java/lang/System", Cond.fieldLink RX0 42 "HandleHeap" "bytesMoved" "I"]
def wsL_clear : List Cond := .codeWith yL_clear cL_clear 4 (some .int) [(0, 9, 12, 13)] :: ((wsL_clear_r1 ++ (wsL_clear_r2 ++ wsL_clear_r3)) ++ wsX00 ++ (vx_atM "java/lang/ArrayIndexOutOfBoundsException" ["java/lang/IndexOutOfBoundsException", "java/lang/RuntimeException", "java/lang/Exception"]).filter goodWord ++ (vx_atS RX0 108 "java/lang/IllegalArgumentException" ["java/lang/RuntimeException", "java/lang/Exception"]).filter goodWord)
def wsL_where : List Cond := .codeWith yL_where cL_where 4 (some .int) [(0, 9, 12, 13)] :: ([.classLink RL 13 "java/lang/IllegalArgumentException", .methodLink RL 42 yX0_where, .instanceMethod yX0_where, .selects RX0 yX0_where yX0_where, .initialized RX0, .code yX0_where cX0_where 2 (some .int), .fieldLink RX0 13 "HandleHeap" "begin" "[I", .methodLink RX0 112 yX0_checkHandle, .static yX0_checkHandle, .code yX0_checkHandle cX0_checkHandle 1 none, .classLink RX0 104 "java/lang/IllegalArgumentException", .initialized "java/lang/IllegalArgumentException"] ++ wsX00 ++ (vx_atM "java/lang/ArrayIndexOutOfBoundsException" ["java/lang/IndexOutOfBoundsException", "java/lang/RuntimeException", "java/lang/Exception"]).filter goodWord ++ (vx_atS RX0 108 "java/lang/IllegalArgumentException" ["java/lang/RuntimeException", "java/lang/Exception"]).filter goodWord)
def wsL_size : List Cond := .codeWith yL_size cL_size 4 (some .int) [(0, 9, 12, 13)] :: ([.classLink RL 13 "java/lang/IllegalArgumentException", .methodLink RL 45 yX0_size, .instanceMethod yX0_size, .selects RX0 yX0_size yX0_size, .initialized RX0, .code yX0_size cX0_size 2 (some .int), .fieldLink RX0 22 "HandleHeap" "length" "[I", .methodLink RX0 112 yX0_checkHandle, .static yX0_checkHandle, .code yX0_checkHandle cX0_checkHandle 1 none, .classLink RX0 104 "java/lang/IllegalArgumentException", .initialized "java/lang/IllegalArgumentException"] ++ wsX00 ++ (vx_atM "java/lang/ArrayIndexOutOfBoundsException" ["java/lang/IndexOutOfBoundsException", "java/lang/RuntimeException", "java/lang/Exception"]).filter goodWord ++ (vx_atS RX0 108 "java/lang/IllegalArgumentException" ["java/lang/RuntimeException", "java/lang/Exception"]).filter goodWord)
def wsL_put_r1 : List Cond := [Cond.classLink RL 13 "java/lang/IllegalArgumentException", Cond.classLink RL 27 "java/lang/IllegalStateException", Cond.classLink RL 52 "java/lang/IndexOutOfBoundsException", Cond.methodLink RL 48 yX0_put, Cond.instanceMethod yX0_put, Cond.selects RX0 yX0_put yX0_put, Cond.initialized RX0, Cond.code yX0_put cX0_put 6 (some .int), Cond.classLink RX0 104 "java/lang/IllegalArgumentException", Cond.initialized "java/lang/IllegalArgumentException", Cond.fieldLink RX0 22 "HandleHeap" "length" "[I", Cond.fieldLink RX0 13 "HandleHeap" "begin" "[I", Cond.fieldLink RX0 9 "HandleHeap" "heap" "[I", Cond.methodLink RX0 82 yX0_checkHasBlock, Cond.instanceMethod yX0_checkHasBlock, Cond.selects RX0 yX0_checkHasBlock yX0_checkHasBlock, Cond.code yX0_checkHasBlock cX0_checkHasBlock 2 none, Cond.classLink RX0 88 "java/lang/IllegalStateException", Cond.initialized "java/lang/IllegalStateException", Cond.methodLink RX0 60 yX0_checkInUse, Cond.instanceMethod yX0_checkInUse, Cond.selects RX0 yX0_checkInUse yX0_checkInUse, Cond.code yX0_checkInUse cX0_checkInUse 2 none, Cond.methodLink RX0 112 yX0_checkHandle]
def wsL_put_r2 : List Cond := [Cond.static yX0_checkHandle, Cond.code yX0_checkHandle cX0_checkHandle 1 none, Cond.methodLink RX0 117 yX0_checkByte, Cond.static yX0_checkByte, Cond.code yX0_checkByte cX0_checkByte 2 none, Cond.classLink RX0 142 "java/lang/IndexOutOfBoundsException", Cond.initialized "java/lang/IndexOutOfBoundsException"]
def wsL_put : List Cond := .codeWith yL_put cL_put 6 (some .int) [(0, 12, 15, 13), (0, 12, 19, 27), (0, 12, 23, 52)] :: ((wsL_put_r1 ++ wsL_put_r2) ++ wsX00 ++ (vx_atM "java/lang/ArrayIndexOutOfBoundsException" ["java/lang/IndexOutOfBoundsException", "java/lang/RuntimeException", "java/lang/Exception"]).filter goodWord ++ (vx_atS RX0 108 "java/lang/IllegalArgumentException" ["java/lang/RuntimeException", "java/lang/Exception"]).filter goodWord ++ (vx_atS RX0 92 "java/lang/IllegalStateException" ["java/lang/RuntimeException", "java/lang/Exception"]).filter goodWord ++ (vx_atS RX0 146 "java/lang/IndexOutOfBoundsException" ["java/lang/RuntimeException", "java/lang/Exception"]).filter goodWord)
def wsL_get_r1 : List Cond := [Cond.classLink RL 13 "java/lang/IllegalArgumentException", Cond.classLink RL 27 "java/lang/IllegalStateException", Cond.classLink RL 52 "java/lang/IndexOutOfBoundsException", Cond.methodLink RL 54 yX0_get, Cond.instanceMethod yX0_get, Cond.selects RX0 yX0_get yX0_get, Cond.initialized RX0, Cond.code yX0_get cX0_get 3 (some .int), Cond.fieldLink RX0 22 "HandleHeap" "length" "[I", Cond.fieldLink RX0 9 "HandleHeap" "heap" "[I", Cond.fieldLink RX0 13 "HandleHeap" "begin" "[I", Cond.methodLink RX0 82 yX0_checkHasBlock, Cond.instanceMethod yX0_checkHasBlock, Cond.selects RX0 yX0_checkHasBlock yX0_checkHasBlock, Cond.code yX0_checkHasBlock cX0_checkHasBlock 2 none, Cond.classLink RX0 88 "java/lang/IllegalStateException", Cond.initialized "java/lang/IllegalStateException", Cond.methodLink RX0 60 yX0_checkInUse, Cond.instanceMethod yX0_checkInUse, Cond.selects RX0 yX0_checkInUse yX0_checkInUse, Cond.code yX0_checkInUse cX0_checkInUse 2 none, Cond.classLink RX0 104 "java/lang/IllegalArgumentException", Cond.initialized "java/lang/IllegalArgumentException", Cond.methodLink RX0 112 yX0_checkHandle]
def wsL_get_r2 : List Cond := [Cond.static yX0_checkHandle, Cond.code yX0_checkHandle cX0_checkHandle 1 none, Cond.methodLink RX0 117 yX0_checkByte, Cond.static yX0_checkByte, Cond.code yX0_checkByte cX0_checkByte 2 none, Cond.classLink RX0 142 "java/lang/IndexOutOfBoundsException", Cond.initialized "java/lang/IndexOutOfBoundsException"]
def wsL_get : List Cond := .codeWith yL_get cL_get 5 (some .int) [(0, 10, 13, 13), (0, 10, 17, 27), (0, 10, 21, 52)] :: ((wsL_get_r1 ++ wsL_get_r2) ++ wsX00 ++ (vx_atM "java/lang/ArrayIndexOutOfBoundsException" ["java/lang/IndexOutOfBoundsException", "java/lang/RuntimeException", "java/lang/Exception"]).filter goodWord ++ (vx_atS RX0 92 "java/lang/IllegalStateException" ["java/lang/RuntimeException", "java/lang/Exception"]).filter goodWord ++ (vx_atS RX0 108 "java/lang/IllegalArgumentException" ["java/lang/RuntimeException", "java/lang/Exception"]).filter goodWord ++ (vx_atS RX0 146 "java/lang/IndexOutOfBoundsException" ["java/lang/RuntimeException", "java/lang/Exception"]).filter goodWord)
def wsL_owner : List Cond := .codeWith yL_owner cL_owner 4 (some .int) [(0, 9, 12, 52)] :: ([.classLink RL 52 "java/lang/IndexOutOfBoundsException", .methodLink RL 58 yX0_owner, .instanceMethod yX0_owner, .selects RX0 yX0_owner yX0_owner, .initialized RX0, .code yX0_owner cX0_owner 4 (some .int), .fieldLink RX0 38 "HandleHeap" "blocks" "I", .fieldLink RX0 35 "HandleHeap" "row" "[I", .fieldLink RX0 13 "HandleHeap" "begin" "[I", .methodLink RX0 117 yX0_checkByte, .static yX0_checkByte, .code yX0_checkByte cX0_checkByte 2 none, .classLink RX0 142 "java/lang/IndexOutOfBoundsException", .initialized "java/lang/IndexOutOfBoundsException", .methodLink RX0 120 yX0_endOf, .instanceMethod yX0_endOf, .selects RX0 yX0_endOf yX0_endOf, .code yX0_endOf cX0_endOf 2 (some .int), .fieldLink RX0 22 "HandleHeap" "length" "[I"] ++ wsX00 ++ (vx_atM "java/lang/ArrayIndexOutOfBoundsException" ["java/lang/IndexOutOfBoundsException", "java/lang/RuntimeException", "java/lang/Exception"]).filter goodWord ++ (vx_atS RX0 146 "java/lang/IndexOutOfBoundsException" ["java/lang/RuntimeException", "java/lang/Exception"]).filter goodWord)
def wsL_told_r1 : List Cond := [Cond.classLink RL 13 "java/lang/IllegalArgumentException", Cond.methodLink RL 61 yX0_told, Cond.instanceMethod yX0_told, Cond.selects RX0 yX0_told yX0_told, Cond.initialized RX0, Cond.code yX0_told cX0_told 2 (some .int), Cond.classLink RX0 104 "java/lang/IllegalArgumentException", Cond.initialized "java/lang/IllegalArgumentException", Cond.fieldLink RX0 42 "HandleHeap" "bytesMoved" "I", Cond.fieldLink RX0 45 "HandleHeap" "blocksLost" "I", Cond.methodLink RX0 123 yX0_freeBytes, Cond.instanceMethod yX0_freeBytes, Cond.selects RX0 yX0_freeBytes yX0_freeBytes, Cond.code yX0_freeBytes cX0_freeBytes 3 (some .int), Cond.fieldLink RX0 38 "HandleHeap" "blocks" "I", Cond.methodLink RX0 150 yX0_gapLength, Cond.instanceMethod yX0_gapLength, Cond.selects RX0 yX0_gapLength yX0_gapLength, Cond.code yX0_gapLength cX0_gapLength 3 (some .int), Cond.fieldLink RX0 13 "HandleHeap" "begin" "[I", Cond.fieldLink RX0 35 "HandleHeap" "row" "[I", Cond.methodLink RX0 147 yX0_gapBegin, Cond.instanceMethod yX0_gapBegin, Cond.selects RX0 yX0_gapBegin yX0_gapBegin]
def wsL_told_r2 : List Cond := [Cond.code yX0_gapBegin cX0_gapBegin 2 (some .int), Cond.methodLink RX0 120 yX0_endOf, Cond.instanceMethod yX0_endOf, Cond.selects RX0 yX0_endOf yX0_endOf, Cond.code yX0_endOf cX0_endOf 2 (some .int), Cond.fieldLink RX0 22 "HandleHeap" "length" "[I", Cond.methodLink RX0 101 yX0_greatestGap, Cond.instanceMethod yX0_greatestGap, Cond.selects RX0 yX0_greatestGap yX0_greatestGap, Cond.code yX0_greatestGap cX0_greatestGap 3 (some .int), Cond.methodLink RX0 153 Lib.Math.max.name, Cond.static Lib.Math.max.name, Cond.initialized "java/lang/Math", Cond.code Lib.Math.max.name Lib.Math.max.code 2 (some .int), Cond.methodLink RX0 126 yX0_countGaps, Cond.instanceMethod yX0_countGaps, Cond.selects RX0 yX0_countGaps yX0_countGaps, Cond.code yX0_countGaps cX0_countGaps 3 (some .int), Cond.methodLink RX0 129 yX0_countHandles, Cond.instanceMethod yX0_countHandles, Cond.selects RX0 yX0_countHandles yX0_countHandles, Cond.code yX0_countHandles cX0_countHandles 4 (some .int)]
def wsL_told : List Cond := .codeWith yL_told cL_told 4 (some .int) [(0, 9, 12, 13)] :: ((wsL_told_r1 ++ wsL_told_r2) ++ wsX00 ++ (vx_atM "java/lang/ArrayIndexOutOfBoundsException" ["java/lang/IndexOutOfBoundsException", "java/lang/RuntimeException", "java/lang/Exception"]).filter goodWord ++ (vx_atS RX0 108 "java/lang/IllegalArgumentException" ["java/lang/RuntimeException", "java/lang/Exception"]).filter goodWord)
def wsL_law0_r1 : List Cond := [Cond.classLink RL 8 RX0, Cond.instantiable RX0 10, Cond.initialized RX0, Cond.classLink RL 65 RX1, Cond.instantiable RX1 10, Cond.initialized RX1, Cond.arrayClass .long, Cond.methodLink RL 64 yX0_init, Cond.instanceMethod yX0_init, Cond.code yX0_init cX0_init 1 none, Cond.methodLink RX0 1 objectInit, Cond.instanceMethod objectInit, Cond.code objectInit ⟨#[0xb1]⟩ 1 none, Cond.arrayClass .int, Cond.fieldLink RX0 9 "HandleHeap" "heap" "[I", Cond.fieldLink RX0 13 "HandleHeap" "begin" "[I", Cond.fieldLink RX0 22 "HandleHeap" "length" "[I", Cond.arrayClass .boolean, Cond.fieldLink RX0 25 "HandleHeap" "isFixed" "[Z", Cond.fieldLink RX0 29 "HandleHeap" "isLocked" "[Z", Cond.fieldLink RX0 32 "HandleHeap" "isLosable" "[Z", Cond.fieldLink RX0 35 "HandleHeap" "row" "[I", Cond.fieldLink RX0 38 "HandleHeap" "blocks" "I", Cond.fieldLink RX0 42 "HandleHeap" "bytesMoved" "I"]
def wsL_law0_r2 : List Cond := [Cond.fieldLink RX0 45 "HandleHeap" "blocksLost" "I", Cond.methodLink RX0 16 yJ7_fill_53178, Cond.static yJ7_fill_53178, Cond.initialized RJ7, Cond.code yJ7_fill_53178 cJ7_fill_53178 4 none, Cond.methodLink RL 67 yX1_init, Cond.instanceMethod yX1_init, Cond.code yX1_init cX1_init 1 none, Cond.methodLink RX1 1 objectInit, Cond.fieldLink RX1 7 "HandleHeapModel" "used" "[Z", Cond.fieldLink RX1 13 "HandleHeapModel" "begin" "[I", Cond.fieldLink RX1 17 "HandleHeapModel" "size" "[I", Cond.fieldLink RX1 20 "HandleHeapModel" "fixed" "[Z", Cond.fieldLink RX1 23 "HandleHeapModel" "locked" "[Z", Cond.fieldLink RX1 26 "HandleHeapModel" "losable" "[Z", Cond.constant RX1 29 (49152), Cond.fieldLink RX1 30 "HandleHeapModel" "bytes" "[I", Cond.methodLink RL 68 yL_ask, Cond.static yL_ask, Cond.initialized RL, Cond.codeWith yL_ask cL_ask 5 (some .int) [(0, 10, 13, 13)], Cond.classLink RL 13 "java/lang/IllegalArgumentException", Cond.methodLink RL 7 yX0_ask, Cond.instanceMethod yX0_ask]
def wsL_law0_r3 : List Cond := [Cond.selects RX0 yX0_ask yX0_ask, Cond.code yX0_ask cX0_ask 4 (some .int), Cond.methodLink RX0 48 yX0_checkBlockLength, Cond.static yX0_checkBlockLength, Cond.code yX0_checkBlockLength cX0_checkBlockLength 1 none, Cond.classLink RX0 104 "java/lang/IllegalArgumentException", Cond.initialized "java/lang/IllegalArgumentException", Cond.methodLink RX0 52 yX0_leastUnused, Cond.instanceMethod yX0_leastUnused, Cond.selects RX0 yX0_leastUnused yX0_leastUnused, Cond.code yX0_leastUnused cX0_leastUnused 2 (some .int), Cond.methodLink RX0 56 yX0_makeBlock, Cond.instanceMethod yX0_makeBlock, Cond.selects RX0 yX0_makeBlock yX0_makeBlock, Cond.code yX0_makeBlock cX0_makeBlock 5 (some .boolean), Cond.methodLink RX0 159 yX0_findRoom, Cond.instanceMethod yX0_findRoom, Cond.selects RX0 yX0_findRoom yX0_findRoom, Cond.code yX0_findRoom cX0_findRoom 5 (some .int), Cond.methodLink RX0 177 yX0_firstGapOf, Cond.instanceMethod yX0_firstGapOf, Cond.selects RX0 yX0_firstGapOf yX0_firstGapOf, Cond.code yX0_firstGapOf cX0_firstGapOf 3 (some .int), Cond.methodLink RX0 150 yX0_gapLength]
def wsL_law0_r4 : List Cond := [Cond.instanceMethod yX0_gapLength, Cond.selects RX0 yX0_gapLength yX0_gapLength, Cond.code yX0_gapLength cX0_gapLength 3 (some .int), Cond.methodLink RX0 147 yX0_gapBegin, Cond.instanceMethod yX0_gapBegin, Cond.selects RX0 yX0_gapBegin yX0_gapBegin, Cond.code yX0_gapBegin cX0_gapBegin 2 (some .int), Cond.methodLink RX0 120 yX0_endOf, Cond.instanceMethod yX0_endOf, Cond.selects RX0 yX0_endOf yX0_endOf, Cond.code yX0_endOf cX0_endOf 2 (some .int), Cond.methodLink RX0 98 yX0_slideTogether, Cond.instanceMethod yX0_slideTogether, Cond.selects RX0 yX0_slideTogether yX0_slideTogether, Cond.code yX0_slideTogether cX0_slideTogether 4 none, Cond.methodLink RX0 74 yX0_isMovable, Cond.instanceMethod yX0_isMovable, Cond.selects RX0 yX0_isMovable yX0_isMovable, Cond.code yX0_isMovable cX0_isMovable 2 (some .boolean), Cond.methodLink RX0 95 yX0_moveTo, Cond.instanceMethod yX0_moveTo, Cond.selects RX0 yX0_moveTo yX0_moveTo, Cond.code yX0_moveTo cX0_moveTo 3 none, Cond.methodLink RX0 171 arraycopyName]
def wsL_law0_r5 : List Cond := [Cond.native arraycopyName, Cond.static arraycopyName, Cond.initialized "java/lang/System", Cond.methodLink RX0 109 yX0_giveUpFirst, Cond.instanceMethod yX0_giveUpFirst, Cond.selects RX0 yX0_giveUpFirst yX0_giveUpFirst, Cond.code yX0_giveUpFirst cX0_giveUpFirst 4 (some .boolean), Cond.methodLink RX0 85 yX0_giveUp, Cond.instanceMethod yX0_giveUp, Cond.selects RX0 yX0_giveUp yX0_giveUp, Cond.code yX0_giveUp cX0_giveUp 2 none, Cond.methodLink RX0 63 yX0_takeBlock, Cond.instanceMethod yX0_takeBlock, Cond.selects RX0 yX0_takeBlock yX0_takeBlock, Cond.code yX0_takeBlock cX0_takeBlock 3 none, Cond.methodLink RX0 165 yX0_leaveRow, Cond.instanceMethod yX0_leaveRow, Cond.selects RX0 yX0_leaveRow yX0_leaveRow, Cond.code yX0_leaveRow cX0_leaveRow 4 none, Cond.methodLink RX0 71 yX0_setLength, Cond.instanceMethod yX0_setLength, Cond.selects RX0 yX0_setLength yX0_setLength, Cond.code yX0_setLength cX0_setLength 3 none, Cond.methodLink RX0 168 yJ7_fill_fda19]
def wsL_law0_r6 : List Cond := [Cond.static yJ7_fill_fda19, Cond.code yJ7_fill_fda19 cJ7_fill_fda19 5 none, Cond.methodLink RJ7 13 yJ7_rangeCheck_23922, Cond.static yJ7_rangeCheck_23922, Cond.code yJ7_rangeCheck_23922 cJ7_rangeCheck_23922 3 none, Cond.classLink RJ7 45 RJ4, Cond.instantiable RJ4 4, Cond.initialized RJ4, Cond.classLink RJ7 68 RJx00060, Cond.instantiable RJx00060 6, Cond.initialized RJx00060, Cond.methodLink RX0 162 yX0_enterRow, Cond.instanceMethod yX0_enterRow, Cond.selects RX0 yX0_enterRow yX0_enterRow, Cond.code yX0_enterRow cX0_enterRow 3 none, Cond.methodLink RL 73 yX1_ask, Cond.instanceMethod yX1_ask, Cond.selects RX1 yX1_ask yX1_ask, Cond.code yX1_ask cX1_ask 5 (some .int), Cond.fieldLink RX1 33 "HandleHeapModel" "thrown" "I", Cond.methodLink RX1 70 yX1_noSize, Cond.static yX1_noSize, Cond.code yX1_noSize cX1_noSize 1 (some .boolean), Cond.methodLink RX1 73 yX1_room]
def wsL_law0_r7 : List Cond := [Cond.instanceMethod yX1_room, Cond.selects RX1 yX1_room yX1_room, Cond.code yX1_room cX1_room 5 (some .int), Cond.methodLink RX1 57 yX1_place, Cond.instanceMethod yX1_place, Cond.selects RX1 yX1_place yX1_place, Cond.code yX1_place cX1_place 4 (some .int), Cond.methodLink RX1 45 yX1_freeTo, Cond.instanceMethod yX1_freeTo, Cond.selects RX1 yX1_freeTo yX1_freeTo, Cond.code yX1_freeTo cX1_freeTo 3 (some .int), Cond.methodLink RX1 41 yX1_firstFrom, Cond.instanceMethod yX1_firstFrom, Cond.selects RX1 yX1_firstFrom yX1_firstFrom, Cond.code yX1_firstFrom cX1_firstFrom 4 (some .int), Cond.methodLink RX1 37 yX1_has, Cond.instanceMethod yX1_has, Cond.selects RX1 yX1_has yX1_has, Cond.code yX1_has cX1_has 2 (some .boolean), Cond.methodLink RX1 60 yX1_slideAll, Cond.instanceMethod yX1_slideAll, Cond.selects RX1 yX1_slideAll yX1_slideAll, Cond.code yX1_slideAll cX1_slideAll 3 none, Cond.fieldLink RX1 51 "HandleHeapModel" "moved" "I"]
def wsL_law0_r8 : List Cond := [Cond.methodLink RX1 48 yX1_isMovable, Cond.instanceMethod yX1_isMovable, Cond.selects RX1 yX1_isMovable yX1_isMovable, Cond.code yX1_isMovable cX1_isMovable 2 (some .boolean), Cond.methodLink RX1 63 yX1_firstToLose, Cond.instanceMethod yX1_firstToLose, Cond.selects RX1 yX1_firstToLose yX1_firstToLose, Cond.code yX1_firstToLose cX1_firstToLose 4 (some .int), Cond.methodLink RX1 66 yX1_loseOne, Cond.instanceMethod yX1_loseOne, Cond.selects RX1 yX1_loseOne yX1_loseOne, Cond.code yX1_loseOne cX1_loseOne 2 none, Cond.fieldLink RX1 54 "HandleHeapModel" "lost" "I", Cond.methodLink RX1 77 yX1_become, Cond.instanceMethod yX1_become, Cond.selects RX1 yX1_become yX1_become, Cond.code yX1_become cX1_become 5 none, Cond.methodLink RL 74 yX1_thrown, Cond.instanceMethod yX1_thrown, Cond.selects RX1 yX1_thrown yX1_thrown, Cond.code yX1_thrown cX1_thrown 1 (some .int), Cond.methodLink RL 78 yL_drop, Cond.static yL_drop, Cond.codeWith yL_drop cL_drop 4 (some .int) [(0, 9, 12, 13)]]
def wsL_law0_r9 : List Cond := [Cond.methodLink RL 15 yX0_drop, Cond.instanceMethod yX0_drop, Cond.selects RX0 yX0_drop yX0_drop, Cond.code yX0_drop cX0_drop 3 (some .int), Cond.methodLink RX0 60 yX0_checkInUse, Cond.instanceMethod yX0_checkInUse, Cond.selects RX0 yX0_checkInUse yX0_checkInUse, Cond.code yX0_checkInUse cX0_checkInUse 2 none, Cond.methodLink RX0 112 yX0_checkHandle, Cond.static yX0_checkHandle, Cond.code yX0_checkHandle cX0_checkHandle 1 none, Cond.methodLink RL 81 yX1_drop, Cond.instanceMethod yX1_drop, Cond.selects RX1 yX1_drop yX1_drop, Cond.code yX1_drop cX1_drop 3 (some .int), Cond.methodLink RX1 81 yX1_notUsed, Cond.instanceMethod yX1_notUsed, Cond.selects RX1 yX1_notUsed yX1_notUsed, Cond.code yX1_notUsed cX1_notUsed 2 (some .boolean), Cond.methodLink RL 82 yL_resize, Cond.static yL_resize, Cond.codeWith yL_resize cL_resize 5 (some .int) [(0, 17, 20, 13)], Cond.methodLink RL 19 yX0_resize, Cond.instanceMethod yX0_resize]
def wsL_law0_r10 : List Cond := [Cond.selects RX0 yX0_resize yX0_resize, Cond.code yX0_resize cX0_resize 3 (some .boolean), Cond.methodLink RX0 67 yX0_freeBehind, Cond.instanceMethod yX0_freeBehind, Cond.selects RX0 yX0_freeBehind yX0_freeBehind, Cond.code yX0_freeBehind cX0_freeBehind 3 (some .int), Cond.methodLink RX0 78 yX0_growElsewhere, Cond.instanceMethod yX0_growElsewhere, Cond.selects RX0 yX0_growElsewhere yX0_growElsewhere, Cond.code yX0_growElsewhere cX0_growElsewhere 4 (some .boolean), Cond.methodLink RL 85 yX1_resize, Cond.instanceMethod yX1_resize, Cond.selects RX1 yX1_resize yX1_resize, Cond.code yX1_resize cX1_resize 5 (some .boolean), Cond.methodLink RL 86 yL_lock, Cond.static yL_lock, Cond.codeWith yL_lock cL_lock 5 (some .int) [(0, 17, 20, 13), (0, 17, 24, 27)], Cond.classLink RL 27 "java/lang/IllegalStateException", Cond.methodLink RL 23 yX0_lock, Cond.instanceMethod yX0_lock, Cond.selects RX0 yX0_lock yX0_lock, Cond.code yX0_lock cX0_lock 4 (some .boolean), Cond.methodLink RX0 82 yX0_checkHasBlock, Cond.instanceMethod yX0_checkHasBlock]
def wsL_law0_r11 : List Cond := [Cond.selects RX0 yX0_checkHasBlock yX0_checkHasBlock, Cond.code yX0_checkHasBlock cX0_checkHasBlock 2 none, Cond.classLink RX0 88 "java/lang/IllegalStateException", Cond.initialized "java/lang/IllegalStateException", Cond.methodLink RL 88 yX1_lock, Cond.instanceMethod yX1_lock, Cond.selects RX1 yX1_lock yX1_lock, Cond.code yX1_lock cX1_lock 4 (some .boolean), Cond.methodLink RX1 84 yX1_notThere, Cond.instanceMethod yX1_notThere, Cond.selects RX1 yX1_notThere yX1_notThere, Cond.code yX1_notThere cX1_notThere 2 (some .boolean), Cond.methodLink RL 89 yL_losable, Cond.static yL_losable, Cond.codeWith yL_losable cL_losable 5 (some .int) [(0, 17, 20, 13), (0, 17, 24, 27)], Cond.methodLink RL 29 yX0_losable, Cond.instanceMethod yX0_losable, Cond.selects RX0 yX0_losable yX0_losable, Cond.code yX0_losable cX0_losable 4 (some .boolean), Cond.methodLink RL 91 yX1_losable, Cond.instanceMethod yX1_losable, Cond.selects RX1 yX1_losable yX1_losable, Cond.code yX1_losable cX1_losable 4 (some .boolean), Cond.methodLink RL 92 yL_lose]
def wsL_law0_r12 : List Cond := [Cond.static yL_lose, Cond.codeWith yL_lose cL_lose 4 (some .int) [(0, 16, 19, 13), (0, 16, 22, 27)], Cond.methodLink RL 32 yX0_lose, Cond.instanceMethod yX0_lose, Cond.selects RX0 yX0_lose yX0_lose, Cond.code yX0_lose cX0_lose 2 (some .boolean), Cond.methodLink RL 94 yX1_lose, Cond.instanceMethod yX1_lose, Cond.selects RX1 yX1_lose yX1_lose, Cond.code yX1_lose cX1_lose 2 (some .boolean), Cond.methodLink RL 95 yL_lift, Cond.static yL_lift, Cond.codeWith yL_lift cL_lift 4 (some .int) [(0, 9, 12, 13), (0, 9, 15, 27)], Cond.methodLink RL 36 yX0_lift, Cond.instanceMethod yX0_lift, Cond.selects RX0 yX0_lift yX0_lift, Cond.code yX0_lift cX0_lift 3 (some .int), Cond.methodLink RL 97 yX1_lift, Cond.instanceMethod yX1_lift, Cond.selects RX1 yX1_lift yX1_lift, Cond.code yX1_lift cX1_lift 4 (some .int), Cond.methodLink RL 98 yX0_slide, Cond.instanceMethod yX0_slide, Cond.selects RX0 yX0_slide yX0_slide]
def wsL_law0_r13 : List Cond := [Cond.code yX0_slide cX0_slide 1 (some .int), Cond.methodLink RX0 101 yX0_greatestGap, Cond.instanceMethod yX0_greatestGap, Cond.selects RX0 yX0_greatestGap yX0_greatestGap, Cond.code yX0_greatestGap cX0_greatestGap 3 (some .int), Cond.methodLink RX0 153 Lib.Math.max.name, Cond.static Lib.Math.max.name, Cond.initialized "java/lang/Math", Cond.code Lib.Math.max.name Lib.Math.max.code 2 (some .int), Cond.methodLink RL 101 yX1_slide, Cond.instanceMethod yX1_slide, Cond.selects RX1 yX1_slide yX1_slide, Cond.code yX1_slide cX1_slide 1 (some .int), Cond.methodLink RX1 87 yX1_greatest, Cond.instanceMethod yX1_greatest, Cond.selects RX1 yX1_greatest yX1_greatest, Cond.code yX1_greatest cX1_greatest 4 (some .int), Cond.methodLink RL 102 yL_clear, Cond.static yL_clear, Cond.codeWith yL_clear cL_clear 4 (some .int) [(0, 9, 12, 13)], Cond.methodLink RL 39 yX0_clear, Cond.instanceMethod yX0_clear, Cond.selects RX0 yX0_clear yX0_clear, Cond.code yX0_clear cX0_clear 3 (some .int)]
def wsL_law0_r14 : List Cond := [Cond.methodLink RL 104 yX1_clear, Cond.instanceMethod yX1_clear, Cond.selects RX1 yX1_clear yX1_clear, Cond.code yX1_clear cX1_clear 3 (some .int), Cond.methodLink RL 105 yL_where, Cond.static yL_where, Cond.codeWith yL_where cL_where 4 (some .int) [(0, 9, 12, 13)], Cond.methodLink RL 42 yX0_where, Cond.instanceMethod yX0_where, Cond.selects RX0 yX0_where yX0_where, Cond.code yX0_where cX0_where 2 (some .int), Cond.methodLink RL 107 yX1_where, Cond.instanceMethod yX1_where, Cond.selects RX1 yX1_where yX1_where, Cond.code yX1_where cX1_where 2 (some .int), Cond.methodLink RL 108 yL_size, Cond.static yL_size, Cond.codeWith yL_size cL_size 4 (some .int) [(0, 9, 12, 13)], Cond.methodLink RL 45 yX0_size, Cond.instanceMethod yX0_size, Cond.selects RX0 yX0_size yX0_size, Cond.code yX0_size cX0_size 2 (some .int), Cond.methodLink RL 110 yX1_size, Cond.instanceMethod yX1_size]
def wsL_law0_r15 : List Cond := [Cond.selects RX1 yX1_size yX1_size, Cond.code yX1_size cX1_size 2 (some .int), Cond.methodLink RL 111 yL_put, Cond.static yL_put, Cond.codeWith yL_put cL_put 6 (some .int) [(0, 12, 15, 13), (0, 12, 19, 27), (0, 12, 23, 52)], Cond.classLink RL 52 "java/lang/IndexOutOfBoundsException", Cond.methodLink RL 48 yX0_put, Cond.instanceMethod yX0_put, Cond.selects RX0 yX0_put yX0_put, Cond.code yX0_put cX0_put 6 (some .int), Cond.methodLink RX0 117 yX0_checkByte, Cond.static yX0_checkByte, Cond.code yX0_checkByte cX0_checkByte 2 none, Cond.classLink RX0 142 "java/lang/IndexOutOfBoundsException", Cond.initialized "java/lang/IndexOutOfBoundsException", Cond.methodLink RL 114 yX1_put, Cond.instanceMethod yX1_put, Cond.selects RX1 yX1_put yX1_put, Cond.code yX1_put cX1_put 5 (some .int), Cond.methodLink RL 115 yL_get, Cond.static yL_get, Cond.codeWith yL_get cL_get 5 (some .int) [(0, 10, 13, 13), (0, 10, 17, 27), (0, 10, 21, 52)], Cond.methodLink RL 54 yX0_get, Cond.instanceMethod yX0_get]
def wsL_law0_r16 : List Cond := [Cond.selects RX0 yX0_get yX0_get, Cond.code yX0_get cX0_get 3 (some .int), Cond.methodLink RL 117 yX1_get, Cond.instanceMethod yX1_get, Cond.selects RX1 yX1_get yX1_get, Cond.code yX1_get cX1_get 3 (some .int), Cond.methodLink RL 118 yL_owner, Cond.static yL_owner, Cond.codeWith yL_owner cL_owner 4 (some .int) [(0, 9, 12, 52)], Cond.methodLink RL 58 yX0_owner, Cond.instanceMethod yX0_owner, Cond.selects RX0 yX0_owner yX0_owner, Cond.code yX0_owner cX0_owner 4 (some .int), Cond.methodLink RL 120 yX1_owner, Cond.instanceMethod yX1_owner, Cond.selects RX1 yX1_owner yX1_owner, Cond.code yX1_owner cX1_owner 3 (some .int), Cond.methodLink RL 121 yL_told, Cond.static yL_told, Cond.codeWith yL_told cL_told 4 (some .int) [(0, 9, 12, 13)], Cond.methodLink RL 61 yX0_told, Cond.instanceMethod yX0_told, Cond.selects RX0 yX0_told yX0_told, Cond.code yX0_told cX0_told 2 (some .int)]
def wsL_law0_r17 : List Cond := [Cond.methodLink RX0 123 yX0_freeBytes, Cond.instanceMethod yX0_freeBytes, Cond.selects RX0 yX0_freeBytes yX0_freeBytes, Cond.code yX0_freeBytes cX0_freeBytes 3 (some .int), Cond.methodLink RX0 126 yX0_countGaps, Cond.instanceMethod yX0_countGaps, Cond.selects RX0 yX0_countGaps yX0_countGaps, Cond.code yX0_countGaps cX0_countGaps 3 (some .int), Cond.methodLink RX0 129 yX0_countHandles, Cond.instanceMethod yX0_countHandles, Cond.selects RX0 yX0_countHandles yX0_countHandles, Cond.code yX0_countHandles cX0_countHandles 4 (some .int), Cond.methodLink RL 123 yX1_told, Cond.instanceMethod yX1_told, Cond.selects RX1 yX1_told yX1_told, Cond.code yX1_told cX1_told 4 (some .int), Cond.methodLink RX1 91 yX1_free, Cond.instanceMethod yX1_free, Cond.selects RX1 yX1_free yX1_free, Cond.code yX1_free cX1_free 5 (some .int)]
def wsL_law0 : List Cond := (wsL_law0_r1 ++ (wsL_law0_r2 ++ (wsL_law0_r3 ++ (wsL_law0_r4 ++ (wsL_law0_r5 ++ (wsL_law0_r6 ++ (wsL_law0_r7 ++ (wsL_law0_r8 ++ (wsL_law0_r9 ++ (wsL_law0_r10 ++ (wsL_law0_r11 ++ (wsL_law0_r12 ++ (wsL_law0_r13 ++ (wsL_law0_r14 ++ (wsL_law0_r15 ++ (wsL_law0_r16 ++ wsL_law0_r17)))))))))))))))) ++ wsX00 ++ wsX10 ++ wsJ40 ++ wsJx000600 ++ ([] : List Cond)
def wsL_law : List Cond := wsL_law0 ++ (vx_atM "java/lang/ArrayIndexOutOfBoundsException" ["java/lang/IndexOutOfBoundsException", "java/lang/RuntimeException", "java/lang/Exception"]).filter goodWord ++ (vx_atS RX0 108 "java/lang/IllegalArgumentException" ["java/lang/RuntimeException", "java/lang/Exception"]).filter goodWord ++ (vx_atS RX0 92 "java/lang/IllegalStateException" ["java/lang/RuntimeException", "java/lang/Exception"]).filter goodWord ++ (vx_atS RX0 146 "java/lang/IndexOutOfBoundsException" ["java/lang/RuntimeException", "java/lang/Exception"]).filter goodWord
end
section
set_option maxRecDepth 20000 in
theorem ggX0_init_J7_fill_53178 : GoodIn wsX0_init wsJ7_fill_53178 := goodIn_r _ [19] (by decide +kernel) (by decide +kernel)
set_option maxRecDepth 20000 in
theorem gX0_init_J7_fill_53178 : GoodIn wsX0_init (va_wsS RX0 16 yJ7_fill_53178 wsJ7_fill_53178) := goodIn_app (goodIn_of _ (by decide +kernel)) ggX0_init_J7_fill_53178
theorem dX0_init_0 : decode cX0_init 0 = .ok (.aload_n 0, 1) := by decide +kernel
theorem dX0_init_1 : decode cX0_init 1 = .ok (.invokespecial 1, 3) := by decide +kernel
theorem dX0_init_4 : decode cX0_init 4 = .ok (.aload_n 0, 1) := by decide +kernel
theorem dX0_init_5 : decode cX0_init 5 = .ok (.sipush 1024, 3) := by decide +kernel
theorem dX0_init_8 : decode cX0_init 8 = .ok (.newarray .int, 2) := by decide +kernel
theorem dX0_init_10 : decode cX0_init 10 = .ok (.putfield 9, 3) := by decide +kernel
theorem dX0_init_13 : decode cX0_init 13 = .ok (.aload_n 0, 1) := by decide +kernel
theorem dX0_init_14 : decode cX0_init 14 = .ok (.bipush 48, 2) := by decide +kernel
theorem dX0_init_16 : decode cX0_init 16 = .ok (.newarray .int, 2) := by decide +kernel
theorem dX0_init_18 : decode cX0_init 18 = .ok (.putfield 13, 3) := by decide +kernel
theorem dX0_init_21 : decode cX0_init 21 = .ok (.aload_n 0, 1) := by decide +kernel
theorem dX0_init_22 : decode cX0_init 22 = .ok (.getfield 13, 3) := by decide +kernel
theorem dX0_init_25 : decode cX0_init 25 = .ok (.iconst (-1), 1) := by decide +kernel
theorem dX0_init_26 : decode cX0_init 26 = .ok (.invokestatic 16, 3) := by decide +kernel
theorem dX0_init_29 : decode cX0_init 29 = .ok (.aload_n 0, 1) := by decide +kernel
theorem dX0_init_30 : decode cX0_init 30 = .ok (.bipush 48, 2) := by decide +kernel
theorem dX0_init_32 : decode cX0_init 32 = .ok (.newarray .int, 2) := by decide +kernel
theorem dX0_init_34 : decode cX0_init 34 = .ok (.putfield 22, 3) := by decide +kernel
theorem dX0_init_37 : decode cX0_init 37 = .ok (.aload_n 0, 1) := by decide +kernel
theorem dX0_init_38 : decode cX0_init 38 = .ok (.bipush 48, 2) := by decide +kernel
theorem dX0_init_40 : decode cX0_init 40 = .ok (.newarray .boolean, 2) := by decide +kernel
theorem dX0_init_42 : decode cX0_init 42 = .ok (.putfield 25, 3) := by decide +kernel
theorem dX0_init_45 : decode cX0_init 45 = .ok (.aload_n 0, 1) := by decide +kernel
theorem dX0_init_46 : decode cX0_init 46 = .ok (.bipush 48, 2) := by decide +kernel
theorem dX0_init_48 : decode cX0_init 48 = .ok (.newarray .boolean, 2) := by decide +kernel
theorem dX0_init_50 : decode cX0_init 50 = .ok (.putfield 29, 3) := by decide +kernel
theorem dX0_init_53 : decode cX0_init 53 = .ok (.aload_n 0, 1) := by decide +kernel
theorem dX0_init_54 : decode cX0_init 54 = .ok (.bipush 48, 2) := by decide +kernel
theorem dX0_init_56 : decode cX0_init 56 = .ok (.newarray .boolean, 2) := by decide +kernel
theorem dX0_init_58 : decode cX0_init 58 = .ok (.putfield 32, 3) := by decide +kernel
theorem dX0_init_61 : decode cX0_init 61 = .ok (.aload_n 0, 1) := by decide +kernel
theorem dX0_init_62 : decode cX0_init 62 = .ok (.bipush 48, 2) := by decide +kernel
theorem dX0_init_64 : decode cX0_init 64 = .ok (.newarray .int, 2) := by decide +kernel
theorem dX0_init_66 : decode cX0_init 66 = .ok (.putfield 35, 3) := by decide +kernel
theorem dX0_init_69 : decode cX0_init 69 = .ok (.aload_n 0, 1) := by decide +kernel
theorem dX0_init_70 : decode cX0_init 70 = .ok (.iconst 0, 1) := by decide +kernel
theorem dX0_init_71 : decode cX0_init 71 = .ok (.putfield 38, 3) := by decide +kernel
theorem dX0_init_74 : decode cX0_init 74 = .ok (.aload_n 0, 1) := by decide +kernel
theorem dX0_init_75 : decode cX0_init 75 = .ok (.iconst 0, 1) := by decide +kernel
theorem dX0_init_76 : decode cX0_init 76 = .ok (.putfield 42, 3) := by decide +kernel
theorem dX0_init_79 : decode cX0_init 79 = .ok (.aload_n 0, 1) := by decide +kernel
theorem dX0_init_80 : decode cX0_init 80 = .ok (.iconst 0, 1) := by decide +kernel
theorem dX0_init_81 : decode cX0_init 81 = .ok (.putfield 45, 3) := by decide +kernel
theorem dX0_init_84 : decode cX0_init 84 = .ok (.return_, 1) := by decide +kernel
set_option maxRecDepth 20000 in
theorem ggX0_ask_X0_checkBlockLength : GoodIn wsX0_ask wsX0_checkBlockLength := goodIn_ca (goodIn_r _ [4, 5, 6] (by decide +kernel) (by decide +kernel)) (goodIn_sub (fun _ h => List.mem_cons_of_mem _ (List.mem_append_left _ (List.mem_append_right _ h))) (by decide +kernel))
set_option maxRecDepth 20000 in
theorem gX0_ask_X0_checkBlockLength : GoodIn wsX0_ask (va_wsS RX0 48 yX0_checkBlockLength wsX0_checkBlockLength) := goodIn_app (goodIn_of _ (by decide +kernel)) ggX0_ask_X0_checkBlockLength
set_option maxRecDepth 20000 in
theorem ggX0_ask_X0_leastUnused : GoodIn wsX0_ask wsX0_leastUnused := goodIn_ca (goodIn_r _ [10, 11, 98, 99, 100, 101, 102, 103, 104, 105, 106, 107] (by decide +kernel) (by decide +kernel)) (goodIn_sub (fun _ h => List.mem_cons_of_mem _ (List.mem_append_right _ h)) (by decide +kernel))
set_option maxRecDepth 20000 in
theorem gX0_ask_X0_leastUnused : GoodIn wsX0_ask (wsV RX0 52 RX0 yX0_leastUnused wsX0_leastUnused) := goodIn_app (goodIn_of _ (by decide +kernel)) ggX0_ask_X0_leastUnused
set_option maxRecDepth 20000 in
theorem ggX0_ask_X0_makeBlock : GoodIn wsX0_ask wsX0_makeBlock := goodIn_ca (goodIn_r _ [15, 11, 16, 17, 18, 19, 20, 21, 3, 22, 23, 24, 25, 26, 27, 28, 29, 30, 31, 32, 33, 34, 35, 36, 37, 38, 39, 40, 41, 42, 43, 44, 45, 46, 47, 48, 49, 50, 51, 52, 53, 54, 55, 56, 57, 58, 59, 60, 61, 62, 63, 64, 65, 66, 67, 68, 69, 70, 71, 72, 73, 74, 75, 76, 77, 78, 79, 80, 81, 82, 83, 84, 85, 86, 87, 88, 89, 90, 91, 92, 93, 94, 95, 96, 97, 98, 99, 100, 101, 102, 103, 104, 105, 106, 107, 108, 109, 110, 111, 112, 113, 114, 115, 116, 117] (by decide +kernel) (by decide +kernel)) (goodIn_sub (fun _ h => List.mem_cons_of_mem _ (List.mem_append_right _ h)) (by decide +kernel))
set_option maxRecDepth 20000 in
theorem gX0_ask_X0_makeBlock : GoodIn wsX0_ask (wsV RX0 56 RX0 yX0_makeBlock wsX0_makeBlock) := goodIn_app (goodIn_of _ (by decide +kernel)) ggX0_ask_X0_makeBlock
theorem dX0_ask_0 : decode cX0_ask 0 = .ok (.iload_n 1, 1) := by decide +kernel
theorem dX0_ask_1 : decode cX0_ask 1 = .ok (.invokestatic 48, 3) := by decide +kernel
theorem dX0_ask_4 : decode cX0_ask 4 = .ok (.aload_n 0, 1) := by decide +kernel
theorem dX0_ask_5 : decode cX0_ask 5 = .ok (.invokevirtual 52, 3) := by decide +kernel
theorem dX0_ask_8 : decode cX0_ask 8 = .ok (.istore_n 3, 1) := by decide +kernel
theorem dX0_ask_9 : decode cX0_ask 9 = .ok (.iload_n 3, 1) := by decide +kernel
theorem dX0_ask_10 : decode cX0_ask 10 = .ok (.iconst (-1), 1) := by decide +kernel
theorem dX0_ask_11 : decode cX0_ask 11 = .ok (.if_icmp .eq 13, 3) := by decide +kernel
theorem dX0_ask_14 : decode cX0_ask 14 = .ok (.aload_n 0, 1) := by decide +kernel
theorem dX0_ask_15 : decode cX0_ask 15 = .ok (.iload_n 3, 1) := by decide +kernel
theorem dX0_ask_16 : decode cX0_ask 16 = .ok (.iload_n 1, 1) := by decide +kernel
theorem dX0_ask_17 : decode cX0_ask 17 = .ok (.iload_n 2, 1) := by decide +kernel
theorem dX0_ask_18 : decode cX0_ask 18 = .ok (.invokevirtual 56, 3) := by decide +kernel
theorem dX0_ask_21 : decode cX0_ask 21 = .ok (.ifCond .ne 5, 3) := by decide +kernel
theorem dX0_ask_24 : decode cX0_ask 24 = .ok (.iconst (-1), 1) := by decide +kernel
theorem dX0_ask_25 : decode cX0_ask 25 = .ok (.ireturn, 1) := by decide +kernel
theorem dX0_ask_26 : decode cX0_ask 26 = .ok (.iload_n 3, 1) := by decide +kernel
theorem dX0_ask_27 : decode cX0_ask 27 = .ok (.ireturn, 1) := by decide +kernel
set_option maxRecDepth 20000 in
theorem ggX0_drop_X0_checkInUse : GoodIn wsX0_drop wsX0_checkInUse := goodIn_ca (goodIn_ca (goodIn_r _ [6, 7, 8, 9, 10, 11, 5, 12, 23, 24, 25, 26, 27, 28, 29, 30, 31, 32] (by decide +kernel) (by decide +kernel)) (goodIn_sub (fun _ h => List.mem_cons_of_mem _ (List.mem_append_left _ (List.mem_append_right _ h))) (by decide +kernel))) (goodIn_sub (fun _ h => List.mem_cons_of_mem _ (List.mem_append_right _ h)) (by decide +kernel))
set_option maxRecDepth 20000 in
theorem gX0_drop_X0_checkInUse : GoodIn wsX0_drop (wsV RX0 60 RX0 yX0_checkInUse wsX0_checkInUse) := goodIn_app (goodIn_of _ (by decide +kernel)) ggX0_drop_X0_checkInUse
set_option maxRecDepth 20000 in
theorem ggX0_drop_X0_takeBlock : GoodIn wsX0_drop wsX0_takeBlock := goodIn_ca (goodIn_r _ [16, 9, 1, 17, 18, 19, 5, 20, 21, 22, 23, 24, 25, 26, 27, 28, 29, 30, 31, 32] (by decide +kernel) (by decide +kernel)) (goodIn_sub (fun _ h => List.mem_cons_of_mem _ (List.mem_append_left _ (List.mem_append_right _ h))) (by decide +kernel))
set_option maxRecDepth 20000 in
theorem gX0_drop_X0_takeBlock : GoodIn wsX0_drop (wsV RX0 63 RX0 yX0_takeBlock wsX0_takeBlock) := goodIn_app (goodIn_of _ (by decide +kernel)) ggX0_drop_X0_takeBlock
theorem dX0_drop_0 : decode cX0_drop 0 = .ok (.aload_n 0, 1) := by decide +kernel
theorem dX0_drop_1 : decode cX0_drop 1 = .ok (.iload_n 1, 1) := by decide +kernel
theorem dX0_drop_2 : decode cX0_drop 2 = .ok (.invokevirtual 60, 3) := by decide +kernel
theorem dX0_drop_5 : decode cX0_drop 5 = .ok (.aload_n 0, 1) := by decide +kernel
theorem dX0_drop_6 : decode cX0_drop 6 = .ok (.getfield 22, 3) := by decide +kernel
theorem dX0_drop_9 : decode cX0_drop 9 = .ok (.iload_n 1, 1) := by decide +kernel
theorem dX0_drop_10 : decode cX0_drop 10 = .ok (.iaload, 1) := by decide +kernel
theorem dX0_drop_11 : decode cX0_drop 11 = .ok (.istore_n 2, 1) := by decide +kernel
theorem dX0_drop_12 : decode cX0_drop 12 = .ok (.aload_n 0, 1) := by decide +kernel
theorem dX0_drop_13 : decode cX0_drop 13 = .ok (.iload_n 1, 1) := by decide +kernel
theorem dX0_drop_14 : decode cX0_drop 14 = .ok (.iconst (-1), 1) := by decide +kernel
theorem dX0_drop_15 : decode cX0_drop 15 = .ok (.invokevirtual 63, 3) := by decide +kernel
theorem dX0_drop_18 : decode cX0_drop 18 = .ok (.iload_n 2, 1) := by decide +kernel
theorem dX0_drop_19 : decode cX0_drop 19 = .ok (.ireturn, 1) := by decide +kernel
set_option maxRecDepth 20000 in
theorem ggX0_resize_X0_checkInUse : GoodIn wsX0_resize wsX0_checkInUse := goodIn_ca (goodIn_ca (goodIn_r _ [7, 8, 9, 1, 10, 11, 6, 12, 109, 110, 111, 112, 113, 114, 115, 116, 117, 118] (by decide +kernel) (by decide +kernel)) (goodIn_sub (fun _ h => List.mem_cons_of_mem _ (List.mem_append_left _ (List.mem_append_right _ h))) (by decide +kernel))) (goodIn_sub (fun _ h => List.mem_cons_of_mem _ (List.mem_append_right _ h)) (by decide +kernel))
set_option maxRecDepth 20000 in
theorem gX0_resize_X0_checkInUse : GoodIn wsX0_resize (wsV RX0 60 RX0 yX0_checkInUse wsX0_checkInUse) := goodIn_app (goodIn_of _ (by decide +kernel)) ggX0_resize_X0_checkInUse
set_option maxRecDepth 20000 in
theorem ggX0_resize_X0_checkBlockLength : GoodIn wsX0_resize wsX0_checkBlockLength := goodIn_ca (goodIn_r _ [15, 8, 9] (by decide +kernel) (by decide +kernel)) (goodIn_sub (fun _ h => List.mem_cons_of_mem _ (List.mem_append_right _ h)) (by decide +kernel))
set_option maxRecDepth 20000 in
theorem gX0_resize_X0_checkBlockLength : GoodIn wsX0_resize (va_wsS RX0 48 yX0_checkBlockLength wsX0_checkBlockLength) := goodIn_app (goodIn_of _ (by decide +kernel)) ggX0_resize_X0_checkBlockLength
set_option maxRecDepth 20000 in
theorem ggX0_resize_X0_makeBlock : GoodIn wsX0_resize wsX0_makeBlock := goodIn_ca (goodIn_r _ [19, 1, 20, 21, 22, 23, 24, 25, 6, 26, 27, 28, 29, 30, 31, 32, 33, 34, 35, 36, 37, 38, 39, 40, 41, 42, 43, 44, 2, 45, 46, 47, 48, 49, 50, 51, 52, 53, 54, 55, 56, 57, 58, 59, 60, 61, 62, 63, 64, 65, 66, 67, 68, 69, 70, 71, 72, 73, 74, 75, 76, 77, 78, 79, 80, 81, 82, 83, 84, 85, 86, 87, 88, 89, 90, 91, 92, 93, 94, 95, 96, 97, 98, 99, 100, 109, 110, 111, 112, 113, 114, 115, 116, 117, 118, 119, 120, 121, 122, 123, 124, 125, 126, 127, 128] (by decide +kernel) (by decide +kernel)) (goodIn_sub (fun _ h => List.mem_cons_of_mem _ (List.mem_append_left _ (List.mem_append_right _ h))) (by decide +kernel))
set_option maxRecDepth 20000 in
theorem gX0_resize_X0_makeBlock : GoodIn wsX0_resize (wsV RX0 56 RX0 yX0_makeBlock wsX0_makeBlock) := goodIn_app (goodIn_of _ (by decide +kernel)) ggX0_resize_X0_makeBlock
set_option maxRecDepth 20000 in
theorem ggX0_resize_X0_freeBehind : GoodIn wsX0_resize wsX0_freeBehind := goodIn_ca (goodIn_r _ [104, 31, 36, 32, 33, 34, 6, 35, 1, 37, 38, 39, 40, 41, 42, 43, 44, 2, 109, 110, 111, 112, 113, 114, 115, 116, 117, 118] (by decide +kernel) (by decide +kernel)) (goodIn_sub (fun _ h => List.mem_cons_of_mem _ (List.mem_append_left _ (List.mem_append_right _ h))) (by decide +kernel))
set_option maxRecDepth 20000 in
theorem gX0_resize_X0_freeBehind : GoodIn wsX0_resize (wsV RX0 67 RX0 yX0_freeBehind wsX0_freeBehind) := goodIn_app (goodIn_of _ (by decide +kernel)) ggX0_resize_X0_freeBehind
set_option maxRecDepth 20000 in
theorem ggX0_resize_X0_setLength : GoodIn wsX0_resize wsX0_setLength := goodIn_ca (goodIn_r _ [83, 2, 57, 1, 41, 42, 43, 6, 44, 84, 85, 86, 87, 88, 89, 90, 91, 92, 93, 94, 95, 96, 109, 110, 111, 112, 113, 114, 115, 116, 117, 118, 119, 120, 121, 122, 123, 124, 125, 126, 127, 128] (by decide +kernel) (by decide +kernel)) (goodIn_sub (fun _ h => List.mem_cons_of_mem _ (List.mem_append_left _ (List.mem_append_right _ h))) (by decide +kernel))
set_option maxRecDepth 20000 in
theorem gX0_resize_X0_setLength : GoodIn wsX0_resize (wsV RX0 71 RX0 yX0_setLength wsX0_setLength) := goodIn_app (goodIn_of _ (by decide +kernel)) ggX0_resize_X0_setLength
set_option maxRecDepth 20000 in
theorem ggX0_resize_X0_isMovable : GoodIn wsX0_resize wsX0_isMovable := goodIn_ca (goodIn_r _ [52, 20, 21, 109, 110, 111, 112, 113, 114, 115, 116, 117, 118] (by decide +kernel) (by decide +kernel)) (goodIn_sub (fun _ h => List.mem_cons_of_mem _ (List.mem_append_left _ (List.mem_append_right _ h))) (by decide +kernel))
set_option maxRecDepth 20000 in
theorem gX0_resize_X0_isMovable : GoodIn wsX0_resize (wsV RX0 74 RX0 yX0_isMovable wsX0_isMovable) := goodIn_app (goodIn_of _ (by decide +kernel)) ggX0_resize_X0_isMovable
set_option maxRecDepth 20000 in
theorem ggX0_resize_X0_growElsewhere : GoodIn wsX0_resize wsX0_growElsewhere := goodIn_ca (goodIn_r _ [108, 23, 24, 25, 6, 26, 27, 28, 29, 30, 31, 32, 33, 34, 35, 1, 36, 37, 38, 39, 40, 41, 42, 43, 44, 2, 45, 46, 47, 48, 49, 50, 51, 52, 20, 21, 53, 54, 55, 56, 57, 58, 59, 60, 61, 62, 63, 64, 65, 66, 22, 67, 68, 69, 70, 71, 72, 73, 74, 75, 76, 77, 78, 79, 97, 98, 99, 100, 80, 81, 82, 83, 84, 85, 86, 87, 88, 89, 90, 91, 92, 93, 94, 95, 96, 109, 110, 111, 112, 113, 114, 115, 116, 117, 118, 119, 120, 121, 122, 123, 124, 125, 126, 127, 128] (by decide +kernel) (by decide +kernel)) (goodIn_sub (fun _ h => List.mem_cons_of_mem _ (List.mem_append_left _ (List.mem_append_right _ h))) (by decide +kernel))
set_option maxRecDepth 20000 in
theorem gX0_resize_X0_growElsewhere : GoodIn wsX0_resize (wsV RX0 78 RX0 yX0_growElsewhere wsX0_growElsewhere) := goodIn_app (goodIn_of _ (by decide +kernel)) ggX0_resize_X0_growElsewhere
theorem dX0_resize_0 : decode cX0_resize 0 = .ok (.aload_n 0, 1) := by decide +kernel
theorem dX0_resize_1 : decode cX0_resize 1 = .ok (.iload_n 1, 1) := by decide +kernel
theorem dX0_resize_2 : decode cX0_resize 2 = .ok (.invokevirtual 60, 3) := by decide +kernel
theorem dX0_resize_5 : decode cX0_resize 5 = .ok (.iload_n 2, 1) := by decide +kernel
theorem dX0_resize_6 : decode cX0_resize 6 = .ok (.invokestatic 48, 3) := by decide +kernel
theorem dX0_resize_9 : decode cX0_resize 9 = .ok (.aload_n 0, 1) := by decide +kernel
theorem dX0_resize_10 : decode cX0_resize 10 = .ok (.getfield 13, 3) := by decide +kernel
theorem dX0_resize_13 : decode cX0_resize 13 = .ok (.iload_n 1, 1) := by decide +kernel
theorem dX0_resize_14 : decode cX0_resize 14 = .ok (.iaload, 1) := by decide +kernel
theorem dX0_resize_15 : decode cX0_resize 15 = .ok (.bipush (-2), 2) := by decide +kernel
theorem dX0_resize_17 : decode cX0_resize 17 = .ok (.if_icmp .ne 11, 3) := by decide +kernel
theorem dX0_resize_20 : decode cX0_resize 20 = .ok (.aload_n 0, 1) := by decide +kernel
theorem dX0_resize_21 : decode cX0_resize 21 = .ok (.iload_n 1, 1) := by decide +kernel
theorem dX0_resize_22 : decode cX0_resize 22 = .ok (.iload_n 2, 1) := by decide +kernel
theorem dX0_resize_23 : decode cX0_resize 23 = .ok (.iconst 0, 1) := by decide +kernel
theorem dX0_resize_24 : decode cX0_resize 24 = .ok (.invokevirtual 56, 3) := by decide +kernel
theorem dX0_resize_27 : decode cX0_resize 27 = .ok (.ireturn, 1) := by decide +kernel
theorem dX0_resize_28 : decode cX0_resize 28 = .ok (.iload_n 2, 1) := by decide +kernel
theorem dX0_resize_29 : decode cX0_resize 29 = .ok (.aload_n 0, 1) := by decide +kernel
theorem dX0_resize_30 : decode cX0_resize 30 = .ok (.getfield 22, 3) := by decide +kernel
theorem dX0_resize_33 : decode cX0_resize 33 = .ok (.iload_n 1, 1) := by decide +kernel
theorem dX0_resize_34 : decode cX0_resize 34 = .ok (.iaload, 1) := by decide +kernel
theorem dX0_resize_35 : decode cX0_resize 35 = .ok (.isub, 1) := by decide +kernel
theorem dX0_resize_36 : decode cX0_resize 36 = .ok (.aload_n 0, 1) := by decide +kernel
theorem dX0_resize_37 : decode cX0_resize 37 = .ok (.iload_n 1, 1) := by decide +kernel
theorem dX0_resize_38 : decode cX0_resize 38 = .ok (.invokevirtual 67, 3) := by decide +kernel
theorem dX0_resize_41 : decode cX0_resize 41 = .ok (.if_icmp .gt 11, 3) := by decide +kernel
theorem dX0_resize_44 : decode cX0_resize 44 = .ok (.aload_n 0, 1) := by decide +kernel
theorem dX0_resize_45 : decode cX0_resize 45 = .ok (.iload_n 1, 1) := by decide +kernel
theorem dX0_resize_46 : decode cX0_resize 46 = .ok (.iload_n 2, 1) := by decide +kernel
theorem dX0_resize_47 : decode cX0_resize 47 = .ok (.invokevirtual 71, 3) := by decide +kernel
theorem dX0_resize_50 : decode cX0_resize 50 = .ok (.iconst 1, 1) := by decide +kernel
theorem dX0_resize_51 : decode cX0_resize 51 = .ok (.ireturn, 1) := by decide +kernel
theorem dX0_resize_52 : decode cX0_resize 52 = .ok (.aload_n 0, 1) := by decide +kernel
theorem dX0_resize_53 : decode cX0_resize 53 = .ok (.iload_n 1, 1) := by decide +kernel
theorem dX0_resize_54 : decode cX0_resize 54 = .ok (.invokevirtual 74, 3) := by decide +kernel
theorem dX0_resize_57 : decode cX0_resize 57 = .ok (.ifCond .eq 16, 3) := by decide +kernel
theorem dX0_resize_60 : decode cX0_resize 60 = .ok (.aload_n 0, 1) := by decide +kernel
theorem dX0_resize_61 : decode cX0_resize 61 = .ok (.iload_n 1, 1) := by decide +kernel
theorem dX0_resize_62 : decode cX0_resize 62 = .ok (.iload_n 2, 1) := by decide +kernel
theorem dX0_resize_63 : decode cX0_resize 63 = .ok (.invokevirtual 78, 3) := by decide +kernel
theorem dX0_resize_66 : decode cX0_resize 66 = .ok (.ifCond .eq 7, 3) := by decide +kernel
theorem dX0_resize_69 : decode cX0_resize 69 = .ok (.iconst 1, 1) := by decide +kernel
theorem dX0_resize_70 : decode cX0_resize 70 = .ok (.goto 4, 3) := by decide +kernel
theorem dX0_resize_73 : decode cX0_resize 73 = .ok (.iconst 0, 1) := by decide +kernel
theorem dX0_resize_74 : decode cX0_resize 74 = .ok (.ireturn, 1) := by decide +kernel
set_option maxRecDepth 20000 in
theorem ggX0_lock_X0_checkHasBlock : GoodIn wsX0_lock wsX0_checkHasBlock := goodIn_ca (goodIn_ca (goodIn_ca (goodIn_r _ [6, 7, 8, 9, 10, 11, 12, 5, 13, 14, 15, 16, 17, 18, 19, 20, 21, 22, 23, 24, 25, 26, 27, 28] (by decide +kernel) (by decide +kernel)) (goodIn_sub (fun _ h => List.mem_cons_of_mem _ (List.mem_append_left _ (List.mem_append_left _ (List.mem_append_right _ h)))) (by decide +kernel))) (goodIn_sub (fun _ h => List.mem_cons_of_mem _ (List.mem_append_left _ (List.mem_append_right _ h))) (by decide +kernel))) (goodIn_sub (fun _ h => List.mem_cons_of_mem _ (List.mem_append_right _ h)) (by decide +kernel))
set_option maxRecDepth 20000 in
theorem gX0_lock_X0_checkHasBlock : GoodIn wsX0_lock (wsV RX0 82 RX0 yX0_checkHasBlock wsX0_checkHasBlock) := goodIn_app (goodIn_of _ (by decide +kernel)) ggX0_lock_X0_checkHasBlock
theorem dX0_lock_0 : decode cX0_lock 0 = .ok (.aload_n 0, 1) := by decide +kernel
theorem dX0_lock_1 : decode cX0_lock 1 = .ok (.iload_n 1, 1) := by decide +kernel
theorem dX0_lock_2 : decode cX0_lock 2 = .ok (.invokevirtual 82, 3) := by decide +kernel
theorem dX0_lock_5 : decode cX0_lock 5 = .ok (.aload_n 0, 1) := by decide +kernel
theorem dX0_lock_6 : decode cX0_lock 6 = .ok (.getfield 29, 3) := by decide +kernel
theorem dX0_lock_9 : decode cX0_lock 9 = .ok (.iload_n 1, 1) := by decide +kernel
theorem dX0_lock_10 : decode cX0_lock 10 = .ok (.baload, 1) := by decide +kernel
theorem dX0_lock_11 : decode cX0_lock 11 = .ok (.istore_n 3, 1) := by decide +kernel
theorem dX0_lock_12 : decode cX0_lock 12 = .ok (.aload_n 0, 1) := by decide +kernel
theorem dX0_lock_13 : decode cX0_lock 13 = .ok (.getfield 29, 3) := by decide +kernel
theorem dX0_lock_16 : decode cX0_lock 16 = .ok (.iload_n 1, 1) := by decide +kernel
theorem dX0_lock_17 : decode cX0_lock 17 = .ok (.iload_n 2, 1) := by decide +kernel
theorem dX0_lock_18 : decode cX0_lock 18 = .ok (.bastore, 1) := by decide +kernel
theorem dX0_lock_19 : decode cX0_lock 19 = .ok (.iload_n 3, 1) := by decide +kernel
theorem dX0_lock_20 : decode cX0_lock 20 = .ok (.ireturn, 1) := by decide +kernel
set_option maxRecDepth 20000 in
theorem ggX0_losable_X0_checkHasBlock : GoodIn wsX0_losable wsX0_checkHasBlock := goodIn_ca (goodIn_ca (goodIn_ca (goodIn_r _ [6, 7, 8, 9, 10, 11, 12, 5, 13, 14, 15, 16, 17, 18, 19, 20, 21, 22, 23, 24, 25, 26, 27, 28] (by decide +kernel) (by decide +kernel)) (goodIn_sub (fun _ h => List.mem_cons_of_mem _ (List.mem_append_left _ (List.mem_append_left _ (List.mem_append_right _ h)))) (by decide +kernel))) (goodIn_sub (fun _ h => List.mem_cons_of_mem _ (List.mem_append_left _ (List.mem_append_right _ h))) (by decide +kernel))) (goodIn_sub (fun _ h => List.mem_cons_of_mem _ (List.mem_append_right _ h)) (by decide +kernel))
set_option maxRecDepth 20000 in
theorem gX0_losable_X0_checkHasBlock : GoodIn wsX0_losable (wsV RX0 82 RX0 yX0_checkHasBlock wsX0_checkHasBlock) := goodIn_app (goodIn_of _ (by decide +kernel)) ggX0_losable_X0_checkHasBlock
theorem dX0_losable_0 : decode cX0_losable 0 = .ok (.aload_n 0, 1) := by decide +kernel
theorem dX0_losable_1 : decode cX0_losable 1 = .ok (.iload_n 1, 1) := by decide +kernel
theorem dX0_losable_2 : decode cX0_losable 2 = .ok (.invokevirtual 82, 3) := by decide +kernel
theorem dX0_losable_5 : decode cX0_losable 5 = .ok (.aload_n 0, 1) := by decide +kernel
theorem dX0_losable_6 : decode cX0_losable 6 = .ok (.getfield 32, 3) := by decide +kernel
theorem dX0_losable_9 : decode cX0_losable 9 = .ok (.iload_n 1, 1) := by decide +kernel
theorem dX0_losable_10 : decode cX0_losable 10 = .ok (.baload, 1) := by decide +kernel
theorem dX0_losable_11 : decode cX0_losable 11 = .ok (.istore_n 3, 1) := by decide +kernel
theorem dX0_losable_12 : decode cX0_losable 12 = .ok (.aload_n 0, 1) := by decide +kernel
theorem dX0_losable_13 : decode cX0_losable 13 = .ok (.getfield 32, 3) := by decide +kernel
theorem dX0_losable_16 : decode cX0_losable 16 = .ok (.iload_n 1, 1) := by decide +kernel
theorem dX0_losable_17 : decode cX0_losable 17 = .ok (.iload_n 2, 1) := by decide +kernel
theorem dX0_losable_18 : decode cX0_losable 18 = .ok (.bastore, 1) := by decide +kernel
theorem dX0_losable_19 : decode cX0_losable 19 = .ok (.iload_n 3, 1) := by decide +kernel
theorem dX0_losable_20 : decode cX0_losable 20 = .ok (.ireturn, 1) := by decide +kernel
set_option maxRecDepth 20000 in
theorem ggX0_lose_X0_checkHasBlock : GoodIn wsX0_lose wsX0_checkHasBlock := goodIn_ca (goodIn_ca (goodIn_ca (goodIn_r _ [5, 6, 7, 8, 9, 10, 11, 4, 12, 13, 14, 15, 16, 17, 40, 41, 42, 43, 44, 45, 46, 47, 48, 49] (by decide +kernel) (by decide +kernel)) (goodIn_sub (fun _ h => List.mem_cons_of_mem _ (List.mem_append_left _ (List.mem_append_left _ (List.mem_append_right _ h)))) (by decide +kernel))) (goodIn_sub (fun _ h => List.mem_cons_of_mem _ (List.mem_append_left _ (List.mem_append_right _ h))) (by decide +kernel))) (goodIn_sub (fun _ h => List.mem_cons_of_mem _ (List.mem_append_right _ h)) (by decide +kernel))
set_option maxRecDepth 20000 in
theorem gX0_lose_X0_checkHasBlock : GoodIn wsX0_lose (wsV RX0 82 RX0 yX0_checkHasBlock wsX0_checkHasBlock) := goodIn_app (goodIn_of _ (by decide +kernel)) ggX0_lose_X0_checkHasBlock
set_option maxRecDepth 20000 in
theorem ggX0_lose_X0_isMovable : GoodIn wsX0_lose wsX0_isMovable := goodIn_ca (goodIn_r _ [21, 22, 23, 40, 41, 42, 43, 44, 45, 46, 47, 48, 49] (by decide +kernel) (by decide +kernel)) (goodIn_sub (fun _ h => List.mem_cons_of_mem _ (List.mem_append_left _ (List.mem_append_left _ (List.mem_append_right _ h)))) (by decide +kernel))
set_option maxRecDepth 20000 in
theorem gX0_lose_X0_isMovable : GoodIn wsX0_lose (wsV RX0 74 RX0 yX0_isMovable wsX0_isMovable) := goodIn_app (goodIn_of _ (by decide +kernel)) ggX0_lose_X0_isMovable
set_option maxRecDepth 20000 in
theorem ggX0_lose_X0_giveUp : GoodIn wsX0_lose wsX0_giveUp := goodIn_ca (goodIn_r _ [27, 28, 29, 30, 31, 4, 32, 8, 33, 34, 35, 36, 37, 38, 39, 40, 41, 42, 43, 44, 45, 46, 47, 48, 49] (by decide +kernel) (by decide +kernel)) (goodIn_sub (fun _ h => List.mem_cons_of_mem _ (List.mem_append_left _ (List.mem_append_left _ (List.mem_append_right _ h)))) (by decide +kernel))
set_option maxRecDepth 20000 in
theorem gX0_lose_X0_giveUp : GoodIn wsX0_lose (wsV RX0 85 RX0 yX0_giveUp wsX0_giveUp) := goodIn_app (goodIn_of _ (by decide +kernel)) ggX0_lose_X0_giveUp
theorem dX0_lose_0 : decode cX0_lose 0 = .ok (.aload_n 0, 1) := by decide +kernel
theorem dX0_lose_1 : decode cX0_lose 1 = .ok (.iload_n 1, 1) := by decide +kernel
theorem dX0_lose_2 : decode cX0_lose 2 = .ok (.invokevirtual 82, 3) := by decide +kernel
theorem dX0_lose_5 : decode cX0_lose 5 = .ok (.aload_n 0, 1) := by decide +kernel
theorem dX0_lose_6 : decode cX0_lose 6 = .ok (.iload_n 1, 1) := by decide +kernel
theorem dX0_lose_7 : decode cX0_lose 7 = .ok (.invokevirtual 74, 3) := by decide +kernel
theorem dX0_lose_10 : decode cX0_lose 10 = .ok (.ifCond .ne 5, 3) := by decide +kernel
theorem dX0_lose_13 : decode cX0_lose 13 = .ok (.iconst 0, 1) := by decide +kernel
theorem dX0_lose_14 : decode cX0_lose 14 = .ok (.ireturn, 1) := by decide +kernel
theorem dX0_lose_15 : decode cX0_lose 15 = .ok (.aload_n 0, 1) := by decide +kernel
theorem dX0_lose_16 : decode cX0_lose 16 = .ok (.iload_n 1, 1) := by decide +kernel
theorem dX0_lose_17 : decode cX0_lose 17 = .ok (.invokevirtual 85, 3) := by decide +kernel
theorem dX0_lose_20 : decode cX0_lose 20 = .ok (.iconst 1, 1) := by decide +kernel
theorem dX0_lose_21 : decode cX0_lose 21 = .ok (.ireturn, 1) := by decide +kernel
set_option maxRecDepth 20000 in
theorem ggX0_lift_X0_checkHasBlock : GoodIn wsX0_lift wsX0_checkHasBlock := goodIn_ca (goodIn_ca (goodIn_ca (goodIn_r _ [8, 1, 2, 3, 9, 10, 11, 7, 12, 13, 14, 15, 16, 17, 53, 54, 55, 56, 57, 58, 59, 60, 61, 62] (by decide +kernel) (by decide +kernel)) (goodIn_sub (fun _ h => List.mem_cons_of_mem _ (List.mem_append_left _ (List.mem_append_right _ h))) (by decide +kernel))) (goodIn_sub (fun _ h => List.mem_cons_of_mem _ (List.mem_append_left _ (List.mem_append_left _ (List.mem_append_right _ h)))) (by decide +kernel))) (goodIn_sub (fun _ h => List.mem_cons_of_mem _ (List.mem_append_right _ h)) (by decide +kernel))
set_option maxRecDepth 20000 in
theorem gX0_lift_X0_checkHasBlock : GoodIn wsX0_lift (wsV RX0 82 RX0 yX0_checkHasBlock wsX0_checkHasBlock) := goodIn_app (goodIn_of _ (by decide +kernel)) ggX0_lift_X0_checkHasBlock
set_option maxRecDepth 20000 in
theorem ggX0_lift_X0_isMovable : GoodIn wsX0_lift wsX0_isMovable := goodIn_ca (goodIn_r _ [21, 22, 23, 53, 54, 55, 56, 57, 58, 59, 60, 61, 62] (by decide +kernel) (by decide +kernel)) (goodIn_sub (fun _ h => List.mem_cons_of_mem _ (List.mem_append_left _ (List.mem_append_right _ h))) (by decide +kernel))
set_option maxRecDepth 20000 in
theorem gX0_lift_X0_isMovable : GoodIn wsX0_lift (wsV RX0 74 RX0 yX0_isMovable wsX0_isMovable) := goodIn_app (goodIn_of _ (by decide +kernel)) ggX0_lift_X0_isMovable
set_option maxRecDepth 20000 in
theorem ggX0_lift_X0_freeBehind : GoodIn wsX0_lift wsX0_freeBehind := goodIn_ca (goodIn_r _ [27, 28, 29, 30, 31, 32, 7, 33, 3, 34, 35, 36, 37, 38, 39, 40, 41, 42, 53, 54, 55, 56, 57, 58, 59, 60, 61, 62] (by decide +kernel) (by decide +kernel)) (goodIn_sub (fun _ h => List.mem_cons_of_mem _ (List.mem_append_left _ (List.mem_append_right _ h))) (by decide +kernel))
set_option maxRecDepth 20000 in
theorem gX0_lift_X0_freeBehind : GoodIn wsX0_lift (wsV RX0 67 RX0 yX0_freeBehind wsX0_freeBehind) := goodIn_app (goodIn_of _ (by decide +kernel)) ggX0_lift_X0_freeBehind
set_option maxRecDepth 20000 in
theorem ggX0_lift_X0_moveTo : GoodIn wsX0_lift wsX0_moveTo := goodIn_ca (goodIn_r _ [46, 3, 47, 42, 48, 49, 50, 51, 52, 53, 54, 55, 56, 57, 58, 59, 60, 61, 62] (by decide +kernel) (by decide +kernel)) (goodIn_sub (fun _ h => List.mem_cons_of_mem _ (List.mem_append_left _ (List.mem_append_right _ h))) (by decide +kernel))
set_option maxRecDepth 20000 in
theorem gX0_lift_X0_moveTo : GoodIn wsX0_lift (wsV RX0 95 RX0 yX0_moveTo wsX0_moveTo) := goodIn_app (goodIn_of _ (by decide +kernel)) ggX0_lift_X0_moveTo
theorem dX0_lift_0 : decode cX0_lift 0 = .ok (.aload_n 0, 1) := by decide +kernel
theorem dX0_lift_1 : decode cX0_lift 1 = .ok (.iload_n 1, 1) := by decide +kernel
theorem dX0_lift_2 : decode cX0_lift 2 = .ok (.invokevirtual 82, 3) := by decide +kernel
theorem dX0_lift_5 : decode cX0_lift 5 = .ok (.aload_n 0, 1) := by decide +kernel
theorem dX0_lift_6 : decode cX0_lift 6 = .ok (.iload_n 1, 1) := by decide +kernel
theorem dX0_lift_7 : decode cX0_lift 7 = .ok (.invokevirtual 74, 3) := by decide +kernel
theorem dX0_lift_10 : decode cX0_lift 10 = .ok (.ifCond .ne 13, 3) := by decide +kernel
theorem dX0_lift_13 : decode cX0_lift 13 = .ok (.new 88, 3) := by decide +kernel
theorem dX0_lift_16 : decode cX0_lift 16 = .ok (.dup, 1) := by decide +kernel
theorem dX0_lift_17 : decode cX0_lift 17 = .ok (.ldc 90, 2) := by decide +kernel
theorem dX0_lift_19 : decode cX0_lift 19 = .ok (.invokespecial 92, 3) := by decide +kernel
theorem dX0_lift_22 : decode cX0_lift 22 = .ok (.athrow, 1) := by decide +kernel
theorem dX0_lift_23 : decode cX0_lift 23 = .ok (.aload_n 0, 1) := by decide +kernel
theorem dX0_lift_24 : decode cX0_lift 24 = .ok (.iload_n 1, 1) := by decide +kernel
theorem dX0_lift_25 : decode cX0_lift 25 = .ok (.invokevirtual 67, 3) := by decide +kernel
theorem dX0_lift_28 : decode cX0_lift 28 = .ok (.istore_n 2, 1) := by decide +kernel
theorem dX0_lift_29 : decode cX0_lift 29 = .ok (.aload_n 0, 1) := by decide +kernel
theorem dX0_lift_30 : decode cX0_lift 30 = .ok (.iload_n 1, 1) := by decide +kernel
theorem dX0_lift_31 : decode cX0_lift 31 = .ok (.aload_n 0, 1) := by decide +kernel
theorem dX0_lift_32 : decode cX0_lift 32 = .ok (.getfield 13, 3) := by decide +kernel
theorem dX0_lift_35 : decode cX0_lift 35 = .ok (.iload_n 1, 1) := by decide +kernel
theorem dX0_lift_36 : decode cX0_lift 36 = .ok (.iaload, 1) := by decide +kernel
theorem dX0_lift_37 : decode cX0_lift 37 = .ok (.iload_n 2, 1) := by decide +kernel
theorem dX0_lift_38 : decode cX0_lift 38 = .ok (.iadd, 1) := by decide +kernel
theorem dX0_lift_39 : decode cX0_lift 39 = .ok (.invokevirtual 95, 3) := by decide +kernel
theorem dX0_lift_42 : decode cX0_lift 42 = .ok (.iload_n 2, 1) := by decide +kernel
theorem dX0_lift_43 : decode cX0_lift 43 = .ok (.ireturn, 1) := by decide +kernel
set_option maxRecDepth 20000 in
theorem ggX0_slide_X0_slideTogether : GoodIn wsX0_slide wsX0_slideTogether := goodIn_ca (goodIn_r _ [5, 6, 7, 8, 9, 10, 4, 11, 12, 13, 14, 15, 16, 17, 18, 19, 20, 21, 22, 23, 24, 25, 26, 27, 28, 29, 46, 47, 48, 49, 50, 51, 52, 53, 54, 55] (by decide +kernel) (by decide +kernel)) (goodIn_sub (fun _ h => List.mem_cons_of_mem _ (List.mem_append_right _ h)) (by decide +kernel))
set_option maxRecDepth 20000 in
theorem gX0_slide_X0_slideTogether : GoodIn wsX0_slide (wsV RX0 98 RX0 yX0_slideTogether wsX0_slideTogether) := goodIn_app (goodIn_of _ (by decide +kernel)) ggX0_slide_X0_slideTogether
set_option maxRecDepth 20000 in
theorem ggX0_slide_X0_greatestGap : GoodIn wsX0_slide wsX0_greatestGap := goodIn_ca (goodIn_r _ [33, 6, 34, 35, 36, 37, 38, 39, 40, 4, 41, 18, 7, 42, 43, 44, 45, 26, 27, 28, 29, 20, 46, 47, 48, 49, 50, 51, 52, 53, 54, 55] (by decide +kernel) (by decide +kernel)) (goodIn_sub (fun _ h => List.mem_cons_of_mem _ (List.mem_append_right _ h)) (by decide +kernel))
set_option maxRecDepth 20000 in
theorem gX0_slide_X0_greatestGap : GoodIn wsX0_slide (wsV RX0 101 RX0 yX0_greatestGap wsX0_greatestGap) := goodIn_app (goodIn_of _ (by decide +kernel)) ggX0_slide_X0_greatestGap
theorem dX0_slide_0 : decode cX0_slide 0 = .ok (.aload_n 0, 1) := by decide +kernel
theorem dX0_slide_1 : decode cX0_slide 1 = .ok (.invokevirtual 98, 3) := by decide +kernel
theorem dX0_slide_4 : decode cX0_slide 4 = .ok (.aload_n 0, 1) := by decide +kernel
theorem dX0_slide_5 : decode cX0_slide 5 = .ok (.invokevirtual 101, 3) := by decide +kernel
theorem dX0_slide_8 : decode cX0_slide 8 = .ok (.ireturn, 1) := by decide +kernel
set_option maxRecDepth 20000 in
theorem ggX0_clear_X0_greatestGap : GoodIn wsX0_clear wsX0_greatestGap := goodIn_ca (goodIn_r _ [7, 8, 9, 10, 11, 12, 13, 14, 15, 6, 16, 17, 18, 19, 20, 21, 22, 23, 24, 25, 26, 27, 66, 67, 68, 69, 70, 71, 72, 73, 74, 75] (by decide +kernel) (by decide +kernel)) (goodIn_sub (fun _ h => List.mem_cons_of_mem _ (List.mem_append_right _ h)) (by decide +kernel))
set_option maxRecDepth 20000 in
theorem gX0_clear_X0_greatestGap : GoodIn wsX0_clear (wsV RX0 101 RX0 yX0_greatestGap wsX0_greatestGap) := goodIn_app (goodIn_of _ (by decide +kernel)) ggX0_clear_X0_greatestGap
set_option maxRecDepth 20000 in
theorem ggX0_clear_X0_giveUpFirst : GoodIn wsX0_clear wsX0_giveUpFirst := goodIn_ca (goodIn_r _ [31, 8, 18, 32, 33, 34, 35, 6, 36, 37, 38, 39, 40, 41, 42, 43, 44, 45, 46, 47, 17, 27, 48, 49, 50, 51, 66, 67, 68, 69, 70, 71, 72, 73, 74, 75] (by decide +kernel) (by decide +kernel)) (goodIn_sub (fun _ h => List.mem_cons_of_mem _ (List.mem_append_right _ h)) (by decide +kernel))
set_option maxRecDepth 20000 in
theorem gX0_clear_X0_giveUpFirst : GoodIn wsX0_clear (wsV RX0 109 RX0 yX0_giveUpFirst wsX0_giveUpFirst) := goodIn_app (goodIn_of _ (by decide +kernel)) ggX0_clear_X0_giveUpFirst
set_option maxRecDepth 20000 in
theorem ggX0_clear_X0_slideTogether : GoodIn wsX0_clear wsX0_slideTogether := goodIn_ca (goodIn_r _ [55, 8, 18, 33, 34, 35, 6, 36, 37, 38, 56, 57, 58, 59, 17, 60, 27, 61, 62, 63, 64, 65, 23, 24, 25, 26, 66, 67, 68, 69, 70, 71, 72, 73, 74, 75] (by decide +kernel) (by decide +kernel)) (goodIn_sub (fun _ h => List.mem_cons_of_mem _ (List.mem_append_right _ h)) (by decide +kernel))
set_option maxRecDepth 20000 in
theorem gX0_clear_X0_slideTogether : GoodIn wsX0_clear (wsV RX0 98 RX0 yX0_slideTogether wsX0_slideTogether) := goodIn_app (goodIn_of _ (by decide +kernel)) ggX0_clear_X0_slideTogether
theorem dX0_clear_0 : decode cX0_clear 0 = .ok (.iload_n 1, 1) := by decide +kernel
theorem dX0_clear_1 : decode cX0_clear 1 = .ok (.ifCond .lt 10, 3) := by decide +kernel
theorem dX0_clear_4 : decode cX0_clear 4 = .ok (.iload_n 1, 1) := by decide +kernel
theorem dX0_clear_5 : decode cX0_clear 5 = .ok (.sipush 1024, 3) := by decide +kernel
theorem dX0_clear_8 : decode cX0_clear 8 = .ok (.if_icmp .le 13, 3) := by decide +kernel
theorem dX0_clear_11 : decode cX0_clear 11 = .ok (.new 104, 3) := by decide +kernel
theorem dX0_clear_14 : decode cX0_clear 14 = .ok (.dup, 1) := by decide +kernel
theorem dX0_clear_15 : decode cX0_clear 15 = .ok (.ldc 106, 2) := by decide +kernel
theorem dX0_clear_17 : decode cX0_clear 17 = .ok (.invokespecial 108, 3) := by decide +kernel
theorem dX0_clear_20 : decode cX0_clear 20 = .ok (.athrow, 1) := by decide +kernel
theorem dX0_clear_21 : decode cX0_clear 21 = .ok (.iconst 0, 1) := by decide +kernel
theorem dX0_clear_22 : decode cX0_clear 22 = .ok (.istore_n 2, 1) := by decide +kernel
theorem dX0_clear_23 : decode cX0_clear 23 = .ok (.iload_n 2, 1) := by decide +kernel
theorem dX0_clear_24 : decode cX0_clear 24 = .ok (.bipush 48, 2) := by decide +kernel
theorem dX0_clear_26 : decode cX0_clear 26 = .ok (.if_icmp .ge 29, 3) := by decide +kernel
theorem dX0_clear_29 : decode cX0_clear 29 = .ok (.aload_n 0, 1) := by decide +kernel
theorem dX0_clear_30 : decode cX0_clear 30 = .ok (.invokevirtual 101, 3) := by decide +kernel
theorem dX0_clear_33 : decode cX0_clear 33 = .ok (.iload_n 1, 1) := by decide +kernel
theorem dX0_clear_34 : decode cX0_clear 34 = .ok (.if_icmp .ge 21, 3) := by decide +kernel
theorem dX0_clear_37 : decode cX0_clear 37 = .ok (.aload_n 0, 1) := by decide +kernel
theorem dX0_clear_38 : decode cX0_clear 38 = .ok (.iconst (-1), 1) := by decide +kernel
theorem dX0_clear_39 : decode cX0_clear 39 = .ok (.invokevirtual 109, 3) := by decide +kernel
theorem dX0_clear_42 : decode cX0_clear 42 = .ok (.ifCond .eq 13, 3) := by decide +kernel
theorem dX0_clear_45 : decode cX0_clear 45 = .ok (.aload_n 0, 1) := by decide +kernel
theorem dX0_clear_46 : decode cX0_clear 46 = .ok (.invokevirtual 98, 3) := by decide +kernel
theorem dX0_clear_49 : decode cX0_clear 49 = .ok (.iinc 2 1, 3) := by decide +kernel
theorem dX0_clear_52 : decode cX0_clear 52 = .ok (.goto (-29), 3) := by decide +kernel
theorem dX0_clear_55 : decode cX0_clear 55 = .ok (.iload_n 2, 1) := by decide +kernel
theorem dX0_clear_56 : decode cX0_clear 56 = .ok (.ireturn, 1) := by decide +kernel
set_option maxRecDepth 20000 in
theorem ggX0_where_X0_checkHandle : GoodIn wsX0_where wsX0_checkHandle := goodIn_ca (goodIn_r _ [5, 6, 7] (by decide +kernel) (by decide +kernel)) (goodIn_sub (fun _ h => List.mem_cons_of_mem _ (List.mem_append_right _ h)) (by decide +kernel))
set_option maxRecDepth 20000 in
theorem gX0_where_X0_checkHandle : GoodIn wsX0_where (va_wsS RX0 112 yX0_checkHandle wsX0_checkHandle) := goodIn_app (goodIn_of _ (by decide +kernel)) ggX0_where_X0_checkHandle
theorem dX0_where_0 : decode cX0_where 0 = .ok (.iload_n 1, 1) := by decide +kernel
theorem dX0_where_1 : decode cX0_where 1 = .ok (.invokestatic 112, 3) := by decide +kernel
theorem dX0_where_4 : decode cX0_where 4 = .ok (.aload_n 0, 1) := by decide +kernel
theorem dX0_where_5 : decode cX0_where 5 = .ok (.getfield 13, 3) := by decide +kernel
theorem dX0_where_8 : decode cX0_where 8 = .ok (.iload_n 1, 1) := by decide +kernel
theorem dX0_where_9 : decode cX0_where 9 = .ok (.iaload, 1) := by decide +kernel
theorem dX0_where_10 : decode cX0_where 10 = .ok (.ireturn, 1) := by decide +kernel
set_option maxRecDepth 20000 in
theorem ggX0_size_X0_checkHandle : GoodIn wsX0_size wsX0_checkHandle := goodIn_ca (goodIn_r _ [5, 6, 7] (by decide +kernel) (by decide +kernel)) (goodIn_sub (fun _ h => List.mem_cons_of_mem _ (List.mem_append_right _ h)) (by decide +kernel))
set_option maxRecDepth 20000 in
theorem gX0_size_X0_checkHandle : GoodIn wsX0_size (va_wsS RX0 112 yX0_checkHandle wsX0_checkHandle) := goodIn_app (goodIn_of _ (by decide +kernel)) ggX0_size_X0_checkHandle
theorem dX0_size_0 : decode cX0_size 0 = .ok (.iload_n 1, 1) := by decide +kernel
theorem dX0_size_1 : decode cX0_size 1 = .ok (.invokestatic 112, 3) := by decide +kernel
theorem dX0_size_4 : decode cX0_size 4 = .ok (.aload_n 0, 1) := by decide +kernel
theorem dX0_size_5 : decode cX0_size 5 = .ok (.getfield 22, 3) := by decide +kernel
theorem dX0_size_8 : decode cX0_size 8 = .ok (.iload_n 1, 1) := by decide +kernel
theorem dX0_size_9 : decode cX0_size 9 = .ok (.iaload, 1) := by decide +kernel
theorem dX0_size_10 : decode cX0_size 10 = .ok (.ireturn, 1) := by decide +kernel
set_option maxRecDepth 20000 in
theorem ggX0_put_X0_checkHasBlock : GoodIn wsX0_put wsX0_checkHasBlock := goodIn_ca (goodIn_ca (goodIn_ca (goodIn_r _ [10, 11, 12, 4, 13, 14, 15, 9, 16, 1, 2, 17, 18, 19, 25, 26, 27, 28, 29, 30, 31, 32, 33, 34] (by decide +kernel) (by decide +kernel)) (goodIn_sub (fun _ h => List.mem_cons_of_mem _ (List.mem_append_left _ (List.mem_append_left _ (List.mem_append_right _ h)))) (by decide +kernel))) (goodIn_sub (fun _ h => List.mem_cons_of_mem _ (List.mem_append_left _ (List.mem_append_right _ h))) (by decide +kernel))) (goodIn_sub (fun _ h => List.mem_cons_of_mem _ (List.mem_append_left _ (List.mem_append_left _ (List.mem_append_left _ (List.mem_append_right _ h))))) (by decide +kernel))
set_option maxRecDepth 20000 in
theorem gX0_put_X0_checkHasBlock : GoodIn wsX0_put (wsV RX0 82 RX0 yX0_checkHasBlock wsX0_checkHasBlock) := goodIn_app (goodIn_of _ (by decide +kernel)) ggX0_put_X0_checkHasBlock
set_option maxRecDepth 20000 in
theorem ggX0_put_X0_checkByte : GoodIn wsX0_put wsX0_checkByte := goodIn_ca (goodIn_r _ [22, 23, 24] (by decide +kernel) (by decide +kernel)) (goodIn_sub (fun _ h => List.mem_cons_of_mem _ (List.mem_append_right _ h)) (by decide +kernel))
set_option maxRecDepth 20000 in
theorem gX0_put_X0_checkByte : GoodIn wsX0_put (va_wsS RX0 117 yX0_checkByte wsX0_checkByte) := goodIn_app (goodIn_of _ (by decide +kernel)) ggX0_put_X0_checkByte
theorem dX0_put_0 : decode cX0_put 0 = .ok (.iload_n 3, 1) := by decide +kernel
theorem dX0_put_1 : decode cX0_put 1 = .ok (.ifCond .lt 10, 3) := by decide +kernel
theorem dX0_put_4 : decode cX0_put 4 = .ok (.iload_n 3, 1) := by decide +kernel
theorem dX0_put_5 : decode cX0_put 5 = .ok (.sipush 255, 3) := by decide +kernel
theorem dX0_put_8 : decode cX0_put 8 = .ok (.if_icmp .le 13, 3) := by decide +kernel
theorem dX0_put_11 : decode cX0_put 11 = .ok (.new 104, 3) := by decide +kernel
theorem dX0_put_14 : decode cX0_put 14 = .ok (.dup, 1) := by decide +kernel
theorem dX0_put_15 : decode cX0_put 15 = .ok (.ldc 115, 2) := by decide +kernel
theorem dX0_put_17 : decode cX0_put 17 = .ok (.invokespecial 108, 3) := by decide +kernel
theorem dX0_put_20 : decode cX0_put 20 = .ok (.athrow, 1) := by decide +kernel
theorem dX0_put_21 : decode cX0_put 21 = .ok (.aload_n 0, 1) := by decide +kernel
theorem dX0_put_22 : decode cX0_put 22 = .ok (.iload_n 1, 1) := by decide +kernel
theorem dX0_put_23 : decode cX0_put 23 = .ok (.invokevirtual 82, 3) := by decide +kernel
theorem dX0_put_26 : decode cX0_put 26 = .ok (.iload_n 2, 1) := by decide +kernel
theorem dX0_put_27 : decode cX0_put 27 = .ok (.aload_n 0, 1) := by decide +kernel
theorem dX0_put_28 : decode cX0_put 28 = .ok (.getfield 22, 3) := by decide +kernel
theorem dX0_put_31 : decode cX0_put 31 = .ok (.iload_n 1, 1) := by decide +kernel
theorem dX0_put_32 : decode cX0_put 32 = .ok (.iaload, 1) := by decide +kernel
theorem dX0_put_33 : decode cX0_put 33 = .ok (.invokestatic 117, 3) := by decide +kernel
theorem dX0_put_36 : decode cX0_put 36 = .ok (.aload_n 0, 1) := by decide +kernel
theorem dX0_put_37 : decode cX0_put 37 = .ok (.getfield 13, 3) := by decide +kernel
theorem dX0_put_40 : decode cX0_put 40 = .ok (.iload_n 1, 1) := by decide +kernel
theorem dX0_put_41 : decode cX0_put 41 = .ok (.iaload, 1) := by decide +kernel
theorem dX0_put_42 : decode cX0_put 42 = .ok (.iload_n 2, 1) := by decide +kernel
theorem dX0_put_43 : decode cX0_put 43 = .ok (.iadd, 1) := by decide +kernel
theorem dX0_put_44 : decode cX0_put 44 = .ok (.istore 4, 2) := by decide +kernel
theorem dX0_put_46 : decode cX0_put 46 = .ok (.aload_n 0, 1) := by decide +kernel
theorem dX0_put_47 : decode cX0_put 47 = .ok (.getfield 9, 3) := by decide +kernel
theorem dX0_put_50 : decode cX0_put 50 = .ok (.iload 4, 2) := by decide +kernel
theorem dX0_put_52 : decode cX0_put 52 = .ok (.iaload, 1) := by decide +kernel
theorem dX0_put_53 : decode cX0_put 53 = .ok (.istore 5, 2) := by decide +kernel
theorem dX0_put_55 : decode cX0_put 55 = .ok (.aload_n 0, 1) := by decide +kernel
theorem dX0_put_56 : decode cX0_put 56 = .ok (.getfield 9, 3) := by decide +kernel
theorem dX0_put_59 : decode cX0_put 59 = .ok (.iload 4, 2) := by decide +kernel
theorem dX0_put_61 : decode cX0_put 61 = .ok (.iload_n 3, 1) := by decide +kernel
theorem dX0_put_62 : decode cX0_put 62 = .ok (.iastore, 1) := by decide +kernel
theorem dX0_put_63 : decode cX0_put 63 = .ok (.iload 5, 2) := by decide +kernel
theorem dX0_put_65 : decode cX0_put 65 = .ok (.ireturn, 1) := by decide +kernel
set_option maxRecDepth 20000 in
theorem ggX0_get_X0_checkHasBlock : GoodIn wsX0_get wsX0_checkHasBlock := goodIn_ca (goodIn_ca (goodIn_ca (goodIn_r _ [8, 9, 10, 3, 11, 12, 13, 7, 14, 15, 16, 17, 18, 19, 25, 26, 27, 28, 29, 30, 31, 32, 33, 34] (by decide +kernel) (by decide +kernel)) (goodIn_sub (fun _ h => List.mem_cons_of_mem _ (List.mem_append_left _ (List.mem_append_left _ (List.mem_append_left _ (List.mem_append_right _ h))))) (by decide +kernel))) (goodIn_sub (fun _ h => List.mem_cons_of_mem _ (List.mem_append_left _ (List.mem_append_left _ (List.mem_append_right _ h)))) (by decide +kernel))) (goodIn_sub (fun _ h => List.mem_cons_of_mem _ (List.mem_append_left _ (List.mem_append_right _ h))) (by decide +kernel))
set_option maxRecDepth 20000 in
theorem gX0_get_X0_checkHasBlock : GoodIn wsX0_get (wsV RX0 82 RX0 yX0_checkHasBlock wsX0_checkHasBlock) := goodIn_app (goodIn_of _ (by decide +kernel)) ggX0_get_X0_checkHasBlock
set_option maxRecDepth 20000 in
theorem ggX0_get_X0_checkByte : GoodIn wsX0_get wsX0_checkByte := goodIn_ca (goodIn_r _ [22, 23, 24] (by decide +kernel) (by decide +kernel)) (goodIn_sub (fun _ h => List.mem_cons_of_mem _ (List.mem_append_right _ h)) (by decide +kernel))
set_option maxRecDepth 20000 in
theorem gX0_get_X0_checkByte : GoodIn wsX0_get (va_wsS RX0 117 yX0_checkByte wsX0_checkByte) := goodIn_app (goodIn_of _ (by decide +kernel)) ggX0_get_X0_checkByte
theorem dX0_get_0 : decode cX0_get 0 = .ok (.aload_n 0, 1) := by decide +kernel
theorem dX0_get_1 : decode cX0_get 1 = .ok (.iload_n 1, 1) := by decide +kernel
theorem dX0_get_2 : decode cX0_get 2 = .ok (.invokevirtual 82, 3) := by decide +kernel
theorem dX0_get_5 : decode cX0_get 5 = .ok (.iload_n 2, 1) := by decide +kernel
theorem dX0_get_6 : decode cX0_get 6 = .ok (.aload_n 0, 1) := by decide +kernel
theorem dX0_get_7 : decode cX0_get 7 = .ok (.getfield 22, 3) := by decide +kernel
theorem dX0_get_10 : decode cX0_get 10 = .ok (.iload_n 1, 1) := by decide +kernel
theorem dX0_get_11 : decode cX0_get 11 = .ok (.iaload, 1) := by decide +kernel
theorem dX0_get_12 : decode cX0_get 12 = .ok (.invokestatic 117, 3) := by decide +kernel
theorem dX0_get_15 : decode cX0_get 15 = .ok (.aload_n 0, 1) := by decide +kernel
theorem dX0_get_16 : decode cX0_get 16 = .ok (.getfield 9, 3) := by decide +kernel
theorem dX0_get_19 : decode cX0_get 19 = .ok (.aload_n 0, 1) := by decide +kernel
theorem dX0_get_20 : decode cX0_get 20 = .ok (.getfield 13, 3) := by decide +kernel
theorem dX0_get_23 : decode cX0_get 23 = .ok (.iload_n 1, 1) := by decide +kernel
theorem dX0_get_24 : decode cX0_get 24 = .ok (.iaload, 1) := by decide +kernel
theorem dX0_get_25 : decode cX0_get 25 = .ok (.iload_n 2, 1) := by decide +kernel
theorem dX0_get_26 : decode cX0_get 26 = .ok (.iadd, 1) := by decide +kernel
theorem dX0_get_27 : decode cX0_get 27 = .ok (.iaload, 1) := by decide +kernel
theorem dX0_get_28 : decode cX0_get 28 = .ok (.ireturn, 1) := by decide +kernel
set_option maxRecDepth 20000 in
theorem ggX0_owner_X0_checkByte : GoodIn wsX0_owner wsX0_checkByte := goodIn_ca (goodIn_r _ [7, 8, 9] (by decide +kernel) (by decide +kernel)) (goodIn_sub (fun _ h => List.mem_cons_of_mem _ (List.mem_append_right _ h)) (by decide +kernel))
set_option maxRecDepth 20000 in
theorem gX0_owner_X0_checkByte : GoodIn wsX0_owner (va_wsS RX0 117 yX0_checkByte wsX0_checkByte) := goodIn_app (goodIn_of _ (by decide +kernel)) ggX0_owner_X0_checkByte
set_option maxRecDepth 20000 in
theorem ggX0_owner_X0_endOf : GoodIn wsX0_owner wsX0_endOf := goodIn_ca (goodIn_r _ [13, 3, 14, 15, 16, 17, 18, 19, 20, 21, 22, 23, 24] (by decide +kernel) (by decide +kernel)) (goodIn_sub (fun _ h => List.mem_cons_of_mem _ (List.mem_append_left _ (List.mem_append_right _ h))) (by decide +kernel))
set_option maxRecDepth 20000 in
theorem gX0_owner_X0_endOf : GoodIn wsX0_owner (wsV RX0 120 RX0 yX0_endOf wsX0_endOf) := goodIn_app (goodIn_of _ (by decide +kernel)) ggX0_owner_X0_endOf
theorem dX0_owner_0 : decode cX0_owner 0 = .ok (.iload_n 1, 1) := by decide +kernel
theorem dX0_owner_1 : decode cX0_owner 1 = .ok (.sipush 1024, 3) := by decide +kernel
theorem dX0_owner_4 : decode cX0_owner 4 = .ok (.invokestatic 117, 3) := by decide +kernel
theorem dX0_owner_7 : decode cX0_owner 7 = .ok (.iconst 0, 1) := by decide +kernel
theorem dX0_owner_8 : decode cX0_owner 8 = .ok (.istore_n 2, 1) := by decide +kernel
theorem dX0_owner_9 : decode cX0_owner 9 = .ok (.iload_n 2, 1) := by decide +kernel
theorem dX0_owner_10 : decode cX0_owner 10 = .ok (.aload_n 0, 1) := by decide +kernel
theorem dX0_owner_11 : decode cX0_owner 11 = .ok (.getfield 38, 3) := by decide +kernel
theorem dX0_owner_14 : decode cX0_owner 14 = .ok (.if_icmp .ge 37, 3) := by decide +kernel
theorem dX0_owner_17 : decode cX0_owner 17 = .ok (.aload_n 0, 1) := by decide +kernel
theorem dX0_owner_18 : decode cX0_owner 18 = .ok (.getfield 35, 3) := by decide +kernel
theorem dX0_owner_21 : decode cX0_owner 21 = .ok (.iload_n 2, 1) := by decide +kernel
theorem dX0_owner_22 : decode cX0_owner 22 = .ok (.iaload, 1) := by decide +kernel
theorem dX0_owner_23 : decode cX0_owner 23 = .ok (.istore_n 3, 1) := by decide +kernel
theorem dX0_owner_24 : decode cX0_owner 24 = .ok (.aload_n 0, 1) := by decide +kernel
theorem dX0_owner_25 : decode cX0_owner 25 = .ok (.getfield 13, 3) := by decide +kernel
theorem dX0_owner_28 : decode cX0_owner 28 = .ok (.iload_n 3, 1) := by decide +kernel
theorem dX0_owner_29 : decode cX0_owner 29 = .ok (.iaload, 1) := by decide +kernel
theorem dX0_owner_30 : decode cX0_owner 30 = .ok (.iload_n 1, 1) := by decide +kernel
theorem dX0_owner_31 : decode cX0_owner 31 = .ok (.if_icmp .gt 14, 3) := by decide +kernel
theorem dX0_owner_34 : decode cX0_owner 34 = .ok (.iload_n 1, 1) := by decide +kernel
theorem dX0_owner_35 : decode cX0_owner 35 = .ok (.aload_n 0, 1) := by decide +kernel
theorem dX0_owner_36 : decode cX0_owner 36 = .ok (.iload_n 3, 1) := by decide +kernel
theorem dX0_owner_37 : decode cX0_owner 37 = .ok (.invokevirtual 120, 3) := by decide +kernel
theorem dX0_owner_40 : decode cX0_owner 40 = .ok (.if_icmp .ge 5, 3) := by decide +kernel
theorem dX0_owner_43 : decode cX0_owner 43 = .ok (.iload_n 3, 1) := by decide +kernel
theorem dX0_owner_44 : decode cX0_owner 44 = .ok (.ireturn, 1) := by decide +kernel
theorem dX0_owner_45 : decode cX0_owner 45 = .ok (.iinc 2 1, 3) := by decide +kernel
theorem dX0_owner_48 : decode cX0_owner 48 = .ok (.goto (-39), 3) := by decide +kernel
theorem dX0_owner_51 : decode cX0_owner 51 = .ok (.iconst (-1), 1) := by decide +kernel
theorem dX0_owner_52 : decode cX0_owner 52 = .ok (.ireturn, 1) := by decide +kernel
set_option maxRecDepth 20000 in
theorem ggX0_told_X0_freeBytes : GoodIn wsX0_told wsX0_freeBytes := goodIn_ca (goodIn_r _ [9, 10, 11, 12, 13, 8, 14, 15, 16, 17, 18, 19, 20, 21, 22, 23, 24, 25, 42, 43, 44, 45, 46, 47, 48, 49, 50, 51] (by decide +kernel) (by decide +kernel)) (goodIn_sub (fun _ h => List.mem_cons_of_mem _ (List.mem_append_right _ h)) (by decide +kernel))
set_option maxRecDepth 20000 in
theorem gX0_told_X0_freeBytes : GoodIn wsX0_told (wsV RX0 123 RX0 yX0_freeBytes wsX0_freeBytes) := goodIn_app (goodIn_of _ (by decide +kernel)) ggX0_told_X0_freeBytes
set_option maxRecDepth 20000 in
theorem ggX0_told_X0_greatestGap : GoodIn wsX0_told wsX0_greatestGap := goodIn_ca (goodIn_r _ [29, 10, 30, 31, 32, 33, 11, 12, 13, 8, 14, 15, 16, 17, 18, 19, 20, 21, 22, 23, 24, 25, 42, 43, 44, 45, 46, 47, 48, 49, 50, 51] (by decide +kernel) (by decide +kernel)) (goodIn_sub (fun _ h => List.mem_cons_of_mem _ (List.mem_append_right _ h)) (by decide +kernel))
set_option maxRecDepth 20000 in
theorem gX0_told_X0_greatestGap : GoodIn wsX0_told (wsV RX0 101 RX0 yX0_greatestGap wsX0_greatestGap) := goodIn_app (goodIn_of _ (by decide +kernel)) ggX0_told_X0_greatestGap
set_option maxRecDepth 20000 in
theorem ggX0_told_X0_countGaps : GoodIn wsX0_told wsX0_countGaps := goodIn_ca (goodIn_r _ [37, 10, 11, 12, 13, 8, 14, 15, 16, 17, 18, 19, 20, 21, 22, 23, 24, 25, 42, 43, 44, 45, 46, 47, 48, 49, 50, 51] (by decide +kernel) (by decide +kernel)) (goodIn_sub (fun _ h => List.mem_cons_of_mem _ (List.mem_append_right _ h)) (by decide +kernel))
set_option maxRecDepth 20000 in
theorem gX0_told_X0_countGaps : GoodIn wsX0_told (wsV RX0 126 RX0 yX0_countGaps wsX0_countGaps) := goodIn_app (goodIn_of _ (by decide +kernel)) ggX0_told_X0_countGaps
set_option maxRecDepth 20000 in
theorem ggX0_told_X0_countHandles : GoodIn wsX0_told wsX0_countHandles := goodIn_ca (goodIn_r _ [41, 15, 42, 43, 44, 45, 46, 47, 48, 49, 50, 51] (by decide +kernel) (by decide +kernel)) (goodIn_sub (fun _ h => List.mem_cons_of_mem _ (List.mem_append_right _ h)) (by decide +kernel))
set_option maxRecDepth 20000 in
theorem gX0_told_X0_countHandles : GoodIn wsX0_told (wsV RX0 129 RX0 yX0_countHandles wsX0_countHandles) := goodIn_app (goodIn_of _ (by decide +kernel)) ggX0_told_X0_countHandles
theorem dX0_told_0 : decode cX0_told 0 = .ok (.iload_n 1, 1) := by decide +kernel
theorem dX0_told_1 : decode cX0_told 1 = .ok (.tableswitch 84 0 6 #[43, 48, 53, 58, 67, 74, 79], 43) := by decide +kernel
theorem dX0_told_44 : decode cX0_told 44 = .ok (.aload_n 0, 1) := by decide +kernel
theorem dX0_told_45 : decode cX0_told 45 = .ok (.invokevirtual 123, 3) := by decide +kernel
theorem dX0_told_48 : decode cX0_told 48 = .ok (.ireturn, 1) := by decide +kernel
theorem dX0_told_49 : decode cX0_told 49 = .ok (.aload_n 0, 1) := by decide +kernel
theorem dX0_told_50 : decode cX0_told 50 = .ok (.invokevirtual 101, 3) := by decide +kernel
theorem dX0_told_53 : decode cX0_told 53 = .ok (.ireturn, 1) := by decide +kernel
theorem dX0_told_54 : decode cX0_told 54 = .ok (.aload_n 0, 1) := by decide +kernel
theorem dX0_told_55 : decode cX0_told 55 = .ok (.invokevirtual 126, 3) := by decide +kernel
theorem dX0_told_58 : decode cX0_told 58 = .ok (.ireturn, 1) := by decide +kernel
theorem dX0_told_59 : decode cX0_told 59 = .ok (.bipush 48, 2) := by decide +kernel
theorem dX0_told_61 : decode cX0_told 61 = .ok (.aload_n 0, 1) := by decide +kernel
theorem dX0_told_62 : decode cX0_told 62 = .ok (.iconst (-1), 1) := by decide +kernel
theorem dX0_told_63 : decode cX0_told 63 = .ok (.invokevirtual 129, 3) := by decide +kernel
theorem dX0_told_66 : decode cX0_told 66 = .ok (.isub, 1) := by decide +kernel
theorem dX0_told_67 : decode cX0_told 67 = .ok (.ireturn, 1) := by decide +kernel
theorem dX0_told_68 : decode cX0_told 68 = .ok (.aload_n 0, 1) := by decide +kernel
theorem dX0_told_69 : decode cX0_told 69 = .ok (.bipush (-2), 2) := by decide +kernel
theorem dX0_told_71 : decode cX0_told 71 = .ok (.invokevirtual 129, 3) := by decide +kernel
theorem dX0_told_74 : decode cX0_told 74 = .ok (.ireturn, 1) := by decide +kernel
theorem dX0_told_75 : decode cX0_told 75 = .ok (.aload_n 0, 1) := by decide +kernel
theorem dX0_told_76 : decode cX0_told 76 = .ok (.getfield 42, 3) := by decide +kernel
theorem dX0_told_79 : decode cX0_told 79 = .ok (.ireturn, 1) := by decide +kernel
theorem dX0_told_80 : decode cX0_told 80 = .ok (.aload_n 0, 1) := by decide +kernel
theorem dX0_told_81 : decode cX0_told 81 = .ok (.getfield 45, 3) := by decide +kernel
theorem dX0_told_84 : decode cX0_told 84 = .ok (.ireturn, 1) := by decide +kernel
theorem dX0_told_85 : decode cX0_told 85 = .ok (.new 104, 3) := by decide +kernel
theorem dX0_told_88 : decode cX0_told 88 = .ok (.dup, 1) := by decide +kernel
theorem dX0_told_89 : decode cX0_told 89 = .ok (.ldc 132, 2) := by decide +kernel
theorem dX0_told_91 : decode cX0_told 91 = .ok (.invokespecial 108, 3) := by decide +kernel
theorem dX0_told_94 : decode cX0_told 94 = .ok (.athrow, 1) := by decide +kernel
theorem dX0_checkHandle_0 : decode cX0_checkHandle 0 = .ok (.iload_n 0, 1) := by decide +kernel
theorem dX0_checkHandle_1 : decode cX0_checkHandle 1 = .ok (.ifCond .lt 9, 3) := by decide +kernel
theorem dX0_checkHandle_4 : decode cX0_checkHandle 4 = .ok (.iload_n 0, 1) := by decide +kernel
theorem dX0_checkHandle_5 : decode cX0_checkHandle 5 = .ok (.bipush 48, 2) := by decide +kernel
theorem dX0_checkHandle_7 : decode cX0_checkHandle 7 = .ok (.if_icmp .lt 13, 3) := by decide +kernel
theorem dX0_checkHandle_10 : decode cX0_checkHandle 10 = .ok (.new 104, 3) := by decide +kernel
theorem dX0_checkHandle_13 : decode cX0_checkHandle 13 = .ok (.dup, 1) := by decide +kernel
theorem dX0_checkHandle_14 : decode cX0_checkHandle 14 = .ok (.ldc 134, 2) := by decide +kernel
theorem dX0_checkHandle_16 : decode cX0_checkHandle 16 = .ok (.invokespecial 108, 3) := by decide +kernel
theorem dX0_checkHandle_19 : decode cX0_checkHandle 19 = .ok (.athrow, 1) := by decide +kernel
theorem dX0_checkHandle_20 : decode cX0_checkHandle 20 = .ok (.return_, 1) := by decide +kernel
set_option maxRecDepth 20000 in
theorem ggX0_checkInUse_X0_checkHandle : GoodIn wsX0_checkInUse wsX0_checkHandle := goodIn_ca (goodIn_r _ [7, 1, 2] (by decide +kernel) (by decide +kernel)) (goodIn_sub (fun _ h => List.mem_cons_of_mem _ (List.mem_append_right _ h)) (by decide +kernel))
set_option maxRecDepth 20000 in
theorem gX0_checkInUse_X0_checkHandle : GoodIn wsX0_checkInUse (va_wsS RX0 112 yX0_checkHandle wsX0_checkHandle) := goodIn_app (goodIn_of _ (by decide +kernel)) ggX0_checkInUse_X0_checkHandle
theorem dX0_checkInUse_0 : decode cX0_checkInUse 0 = .ok (.iload_n 1, 1) := by decide +kernel
theorem dX0_checkInUse_1 : decode cX0_checkInUse 1 = .ok (.invokestatic 112, 3) := by decide +kernel
theorem dX0_checkInUse_4 : decode cX0_checkInUse 4 = .ok (.aload_n 0, 1) := by decide +kernel
theorem dX0_checkInUse_5 : decode cX0_checkInUse 5 = .ok (.getfield 13, 3) := by decide +kernel
theorem dX0_checkInUse_8 : decode cX0_checkInUse 8 = .ok (.iload_n 1, 1) := by decide +kernel
theorem dX0_checkInUse_9 : decode cX0_checkInUse 9 = .ok (.iaload, 1) := by decide +kernel
theorem dX0_checkInUse_10 : decode cX0_checkInUse 10 = .ok (.iconst (-1), 1) := by decide +kernel
theorem dX0_checkInUse_11 : decode cX0_checkInUse 11 = .ok (.if_icmp .ne 13, 3) := by decide +kernel
theorem dX0_checkInUse_14 : decode cX0_checkInUse 14 = .ok (.new 104, 3) := by decide +kernel
theorem dX0_checkInUse_17 : decode cX0_checkInUse 17 = .ok (.dup, 1) := by decide +kernel
theorem dX0_checkInUse_18 : decode cX0_checkInUse 18 = .ok (.ldc 136, 2) := by decide +kernel
theorem dX0_checkInUse_20 : decode cX0_checkInUse 20 = .ok (.invokespecial 108, 3) := by decide +kernel
theorem dX0_checkInUse_23 : decode cX0_checkInUse 23 = .ok (.athrow, 1) := by decide +kernel
theorem dX0_checkInUse_24 : decode cX0_checkInUse 24 = .ok (.return_, 1) := by decide +kernel
set_option maxRecDepth 20000 in
theorem ggX0_checkHasBlock_X0_checkInUse : GoodIn wsX0_checkHasBlock wsX0_checkInUse := goodIn_ca (goodIn_ca (goodIn_r _ [8, 9, 10, 3, 11, 12, 7, 13, 14, 15, 16, 17, 18, 19, 20, 21, 22, 23] (by decide +kernel) (by decide +kernel)) (goodIn_sub (fun _ h => List.mem_cons_of_mem _ (List.mem_append_left _ (List.mem_append_left _ (List.mem_append_right _ h)))) (by decide +kernel))) (goodIn_sub (fun _ h => List.mem_cons_of_mem _ (List.mem_append_right _ h)) (by decide +kernel))
set_option maxRecDepth 20000 in
theorem gX0_checkHasBlock_X0_checkInUse : GoodIn wsX0_checkHasBlock (wsV RX0 60 RX0 yX0_checkInUse wsX0_checkInUse) := goodIn_app (goodIn_of _ (by decide +kernel)) ggX0_checkHasBlock_X0_checkInUse
theorem dX0_checkHasBlock_0 : decode cX0_checkHasBlock 0 = .ok (.aload_n 0, 1) := by decide +kernel
theorem dX0_checkHasBlock_1 : decode cX0_checkHasBlock 1 = .ok (.iload_n 1, 1) := by decide +kernel
theorem dX0_checkHasBlock_2 : decode cX0_checkHasBlock 2 = .ok (.invokevirtual 60, 3) := by decide +kernel
theorem dX0_checkHasBlock_5 : decode cX0_checkHasBlock 5 = .ok (.aload_n 0, 1) := by decide +kernel
theorem dX0_checkHasBlock_6 : decode cX0_checkHasBlock 6 = .ok (.getfield 13, 3) := by decide +kernel
theorem dX0_checkHasBlock_9 : decode cX0_checkHasBlock 9 = .ok (.iload_n 1, 1) := by decide +kernel
theorem dX0_checkHasBlock_10 : decode cX0_checkHasBlock 10 = .ok (.iaload, 1) := by decide +kernel
theorem dX0_checkHasBlock_11 : decode cX0_checkHasBlock 11 = .ok (.bipush (-2), 2) := by decide +kernel
theorem dX0_checkHasBlock_13 : decode cX0_checkHasBlock 13 = .ok (.if_icmp .ne 13, 3) := by decide +kernel
theorem dX0_checkHasBlock_16 : decode cX0_checkHasBlock 16 = .ok (.new 88, 3) := by decide +kernel
theorem dX0_checkHasBlock_19 : decode cX0_checkHasBlock 19 = .ok (.dup, 1) := by decide +kernel
theorem dX0_checkHasBlock_20 : decode cX0_checkHasBlock 20 = .ok (.ldc 138, 2) := by decide +kernel
theorem dX0_checkHasBlock_22 : decode cX0_checkHasBlock 22 = .ok (.invokespecial 92, 3) := by decide +kernel
theorem dX0_checkHasBlock_25 : decode cX0_checkHasBlock 25 = .ok (.athrow, 1) := by decide +kernel
theorem dX0_checkHasBlock_26 : decode cX0_checkHasBlock 26 = .ok (.return_, 1) := by decide +kernel
theorem dX0_checkBlockLength_0 : decode cX0_checkBlockLength 0 = .ok (.iload_n 0, 1) := by decide +kernel
theorem dX0_checkBlockLength_1 : decode cX0_checkBlockLength 1 = .ok (.iconst 1, 1) := by decide +kernel
theorem dX0_checkBlockLength_2 : decode cX0_checkBlockLength 2 = .ok (.if_icmp .lt 10, 3) := by decide +kernel
theorem dX0_checkBlockLength_5 : decode cX0_checkBlockLength 5 = .ok (.iload_n 0, 1) := by decide +kernel
theorem dX0_checkBlockLength_6 : decode cX0_checkBlockLength 6 = .ok (.sipush 1024, 3) := by decide +kernel
theorem dX0_checkBlockLength_9 : decode cX0_checkBlockLength 9 = .ok (.if_icmp .le 13, 3) := by decide +kernel
theorem dX0_checkBlockLength_12 : decode cX0_checkBlockLength 12 = .ok (.new 104, 3) := by decide +kernel
theorem dX0_checkBlockLength_15 : decode cX0_checkBlockLength 15 = .ok (.dup, 1) := by decide +kernel
theorem dX0_checkBlockLength_16 : decode cX0_checkBlockLength 16 = .ok (.ldc 140, 2) := by decide +kernel
theorem dX0_checkBlockLength_18 : decode cX0_checkBlockLength 18 = .ok (.invokespecial 108, 3) := by decide +kernel
theorem dX0_checkBlockLength_21 : decode cX0_checkBlockLength 21 = .ok (.athrow, 1) := by decide +kernel
theorem dX0_checkBlockLength_22 : decode cX0_checkBlockLength 22 = .ok (.return_, 1) := by decide +kernel
theorem dX0_checkByte_0 : decode cX0_checkByte 0 = .ok (.iload_n 0, 1) := by decide +kernel
theorem dX0_checkByte_1 : decode cX0_checkByte 1 = .ok (.ifCond .lt 8, 3) := by decide +kernel
theorem dX0_checkByte_4 : decode cX0_checkByte 4 = .ok (.iload_n 0, 1) := by decide +kernel
theorem dX0_checkByte_5 : decode cX0_checkByte 5 = .ok (.iload_n 1, 1) := by decide +kernel
theorem dX0_checkByte_6 : decode cX0_checkByte 6 = .ok (.if_icmp .lt 13, 3) := by decide +kernel
theorem dX0_checkByte_9 : decode cX0_checkByte 9 = .ok (.new 142, 3) := by decide +kernel
theorem dX0_checkByte_12 : decode cX0_checkByte 12 = .ok (.dup, 1) := by decide +kernel
theorem dX0_checkByte_13 : decode cX0_checkByte 13 = .ok (.ldc 144, 2) := by decide +kernel
theorem dX0_checkByte_15 : decode cX0_checkByte 15 = .ok (.invokespecial 146, 3) := by decide +kernel
theorem dX0_checkByte_18 : decode cX0_checkByte 18 = .ok (.athrow, 1) := by decide +kernel
theorem dX0_checkByte_19 : decode cX0_checkByte 19 = .ok (.return_, 1) := by decide +kernel
theorem dX0_leastUnused_0 : decode cX0_leastUnused 0 = .ok (.iconst 0, 1) := by decide +kernel
theorem dX0_leastUnused_1 : decode cX0_leastUnused 1 = .ok (.istore_n 1, 1) := by decide +kernel
theorem dX0_leastUnused_2 : decode cX0_leastUnused 2 = .ok (.iload_n 1, 1) := by decide +kernel
theorem dX0_leastUnused_3 : decode cX0_leastUnused 3 = .ok (.bipush 48, 2) := by decide +kernel
theorem dX0_leastUnused_5 : decode cX0_leastUnused 5 = .ok (.if_icmp .ge 21, 3) := by decide +kernel
theorem dX0_leastUnused_8 : decode cX0_leastUnused 8 = .ok (.aload_n 0, 1) := by decide +kernel
theorem dX0_leastUnused_9 : decode cX0_leastUnused 9 = .ok (.getfield 13, 3) := by decide +kernel
theorem dX0_leastUnused_12 : decode cX0_leastUnused 12 = .ok (.iload_n 1, 1) := by decide +kernel
theorem dX0_leastUnused_13 : decode cX0_leastUnused 13 = .ok (.iaload, 1) := by decide +kernel
theorem dX0_leastUnused_14 : decode cX0_leastUnused 14 = .ok (.iconst (-1), 1) := by decide +kernel
theorem dX0_leastUnused_15 : decode cX0_leastUnused 15 = .ok (.if_icmp .ne 5, 3) := by decide +kernel
theorem dX0_leastUnused_18 : decode cX0_leastUnused 18 = .ok (.iload_n 1, 1) := by decide +kernel
theorem dX0_leastUnused_19 : decode cX0_leastUnused 19 = .ok (.ireturn, 1) := by decide +kernel
theorem dX0_leastUnused_20 : decode cX0_leastUnused 20 = .ok (.iinc 1 1, 3) := by decide +kernel
theorem dX0_leastUnused_23 : decode cX0_leastUnused 23 = .ok (.goto (-21), 3) := by decide +kernel
theorem dX0_leastUnused_26 : decode cX0_leastUnused 26 = .ok (.iconst (-1), 1) := by decide +kernel
theorem dX0_leastUnused_27 : decode cX0_leastUnused 27 = .ok (.ireturn, 1) := by decide +kernel
theorem dX0_countHandles_0 : decode cX0_countHandles 0 = .ok (.iconst 0, 1) := by decide +kernel
theorem dX0_countHandles_1 : decode cX0_countHandles 1 = .ok (.istore_n 2, 1) := by decide +kernel
theorem dX0_countHandles_2 : decode cX0_countHandles 2 = .ok (.iconst 0, 1) := by decide +kernel
theorem dX0_countHandles_3 : decode cX0_countHandles 3 = .ok (.istore_n 3, 1) := by decide +kernel
theorem dX0_countHandles_4 : decode cX0_countHandles 4 = .ok (.iload_n 3, 1) := by decide +kernel
theorem dX0_countHandles_5 : decode cX0_countHandles 5 = .ok (.bipush 48, 2) := by decide +kernel
theorem dX0_countHandles_7 : decode cX0_countHandles 7 = .ok (.if_icmp .ge 22, 3) := by decide +kernel
theorem dX0_countHandles_10 : decode cX0_countHandles 10 = .ok (.aload_n 0, 1) := by decide +kernel
theorem dX0_countHandles_11 : decode cX0_countHandles 11 = .ok (.getfield 13, 3) := by decide +kernel
theorem dX0_countHandles_14 : decode cX0_countHandles 14 = .ok (.iload_n 3, 1) := by decide +kernel
theorem dX0_countHandles_15 : decode cX0_countHandles 15 = .ok (.iaload, 1) := by decide +kernel
theorem dX0_countHandles_16 : decode cX0_countHandles 16 = .ok (.iload_n 1, 1) := by decide +kernel
theorem dX0_countHandles_17 : decode cX0_countHandles 17 = .ok (.if_icmp .ne 6, 3) := by decide +kernel
theorem dX0_countHandles_20 : decode cX0_countHandles 20 = .ok (.iinc 2 1, 3) := by decide +kernel
theorem dX0_countHandles_23 : decode cX0_countHandles 23 = .ok (.iinc 3 1, 3) := by decide +kernel
theorem dX0_countHandles_26 : decode cX0_countHandles 26 = .ok (.goto (-22), 3) := by decide +kernel
theorem dX0_countHandles_29 : decode cX0_countHandles 29 = .ok (.iload_n 2, 1) := by decide +kernel
theorem dX0_countHandles_30 : decode cX0_countHandles 30 = .ok (.ireturn, 1) := by decide +kernel
theorem dX0_isMovable_0 : decode cX0_isMovable 0 = .ok (.aload_n 0, 1) := by decide +kernel
theorem dX0_isMovable_1 : decode cX0_isMovable 1 = .ok (.getfield 25, 3) := by decide +kernel
theorem dX0_isMovable_4 : decode cX0_isMovable 4 = .ok (.iload_n 1, 1) := by decide +kernel
theorem dX0_isMovable_5 : decode cX0_isMovable 5 = .ok (.baload, 1) := by decide +kernel
theorem dX0_isMovable_6 : decode cX0_isMovable 6 = .ok (.ifCond .ne 16, 3) := by decide +kernel
theorem dX0_isMovable_9 : decode cX0_isMovable 9 = .ok (.aload_n 0, 1) := by decide +kernel
theorem dX0_isMovable_10 : decode cX0_isMovable 10 = .ok (.getfield 29, 3) := by decide +kernel
theorem dX0_isMovable_13 : decode cX0_isMovable 13 = .ok (.iload_n 1, 1) := by decide +kernel
theorem dX0_isMovable_14 : decode cX0_isMovable 14 = .ok (.baload, 1) := by decide +kernel
theorem dX0_isMovable_15 : decode cX0_isMovable 15 = .ok (.ifCond .ne 7, 3) := by decide +kernel
theorem dX0_isMovable_18 : decode cX0_isMovable 18 = .ok (.iconst 1, 1) := by decide +kernel
theorem dX0_isMovable_19 : decode cX0_isMovable 19 = .ok (.goto 4, 3) := by decide +kernel
theorem dX0_isMovable_22 : decode cX0_isMovable 22 = .ok (.iconst 0, 1) := by decide +kernel
theorem dX0_isMovable_23 : decode cX0_isMovable 23 = .ok (.ireturn, 1) := by decide +kernel
theorem dX0_endOf_0 : decode cX0_endOf 0 = .ok (.aload_n 0, 1) := by decide +kernel
theorem dX0_endOf_1 : decode cX0_endOf 1 = .ok (.getfield 13, 3) := by decide +kernel
theorem dX0_endOf_4 : decode cX0_endOf 4 = .ok (.iload_n 1, 1) := by decide +kernel
theorem dX0_endOf_5 : decode cX0_endOf 5 = .ok (.iaload, 1) := by decide +kernel
theorem dX0_endOf_6 : decode cX0_endOf 6 = .ok (.aload_n 0, 1) := by decide +kernel
theorem dX0_endOf_7 : decode cX0_endOf 7 = .ok (.getfield 22, 3) := by decide +kernel
theorem dX0_endOf_10 : decode cX0_endOf 10 = .ok (.iload_n 1, 1) := by decide +kernel
theorem dX0_endOf_11 : decode cX0_endOf 11 = .ok (.iaload, 1) := by decide +kernel
theorem dX0_endOf_12 : decode cX0_endOf 12 = .ok (.iadd, 1) := by decide +kernel
theorem dX0_endOf_13 : decode cX0_endOf 13 = .ok (.ireturn, 1) := by decide +kernel
set_option maxRecDepth 20000 in
theorem ggX0_gapBegin_X0_endOf : GoodIn wsX0_gapBegin wsX0_endOf := goodIn_ca (goodIn_r _ [6, 7, 8, 9, 10, 11, 12, 13, 14, 15, 16, 17, 18] (by decide +kernel) (by decide +kernel)) (goodIn_sub (fun _ h => List.mem_cons_of_mem _ (List.mem_append_right _ h)) (by decide +kernel))
set_option maxRecDepth 20000 in
theorem gX0_gapBegin_X0_endOf : GoodIn wsX0_gapBegin (wsV RX0 120 RX0 yX0_endOf wsX0_endOf) := goodIn_app (goodIn_of _ (by decide +kernel)) ggX0_gapBegin_X0_endOf
theorem dX0_gapBegin_0 : decode cX0_gapBegin 0 = .ok (.iload_n 1, 1) := by decide +kernel
theorem dX0_gapBegin_1 : decode cX0_gapBegin 1 = .ok (.ifCond .ne 7, 3) := by decide +kernel
theorem dX0_gapBegin_4 : decode cX0_gapBegin 4 = .ok (.iconst 0, 1) := by decide +kernel
theorem dX0_gapBegin_5 : decode cX0_gapBegin 5 = .ok (.goto 15, 3) := by decide +kernel
theorem dX0_gapBegin_8 : decode cX0_gapBegin 8 = .ok (.aload_n 0, 1) := by decide +kernel
theorem dX0_gapBegin_9 : decode cX0_gapBegin 9 = .ok (.aload_n 0, 1) := by decide +kernel
theorem dX0_gapBegin_10 : decode cX0_gapBegin 10 = .ok (.getfield 35, 3) := by decide +kernel
theorem dX0_gapBegin_13 : decode cX0_gapBegin 13 = .ok (.iload_n 1, 1) := by decide +kernel
theorem dX0_gapBegin_14 : decode cX0_gapBegin 14 = .ok (.iconst 1, 1) := by decide +kernel
theorem dX0_gapBegin_15 : decode cX0_gapBegin 15 = .ok (.isub, 1) := by decide +kernel
theorem dX0_gapBegin_16 : decode cX0_gapBegin 16 = .ok (.iaload, 1) := by decide +kernel
theorem dX0_gapBegin_17 : decode cX0_gapBegin 17 = .ok (.invokevirtual 120, 3) := by decide +kernel
theorem dX0_gapBegin_20 : decode cX0_gapBegin 20 = .ok (.ireturn, 1) := by decide +kernel
set_option maxRecDepth 20000 in
theorem ggX0_gapLength_X0_gapBegin : GoodIn wsX0_gapLength wsX0_gapBegin := goodIn_ca (goodIn_r _ [8, 3, 9, 10, 11, 7, 12, 2, 13, 14, 15, 16, 17, 18, 19, 20, 21, 22, 23] (by decide +kernel) (by decide +kernel)) (goodIn_sub (fun _ h => List.mem_cons_of_mem _ (List.mem_append_right _ h)) (by decide +kernel))
set_option maxRecDepth 20000 in
theorem gX0_gapLength_X0_gapBegin : GoodIn wsX0_gapLength (wsV RX0 147 RX0 yX0_gapBegin wsX0_gapBegin) := goodIn_app (goodIn_of _ (by decide +kernel)) ggX0_gapLength_X0_gapBegin
theorem dX0_gapLength_0 : decode cX0_gapLength 0 = .ok (.iload_n 1, 1) := by decide +kernel
theorem dX0_gapLength_1 : decode cX0_gapLength 1 = .ok (.aload_n 0, 1) := by decide +kernel
theorem dX0_gapLength_2 : decode cX0_gapLength 2 = .ok (.getfield 38, 3) := by decide +kernel
theorem dX0_gapLength_5 : decode cX0_gapLength 5 = .ok (.if_icmp .ne 9, 3) := by decide +kernel
theorem dX0_gapLength_8 : decode cX0_gapLength 8 = .ok (.sipush 1024, 3) := by decide +kernel
theorem dX0_gapLength_11 : decode cX0_gapLength 11 = .ok (.goto 14, 3) := by decide +kernel
theorem dX0_gapLength_14 : decode cX0_gapLength 14 = .ok (.aload_n 0, 1) := by decide +kernel
theorem dX0_gapLength_15 : decode cX0_gapLength 15 = .ok (.getfield 13, 3) := by decide +kernel
theorem dX0_gapLength_18 : decode cX0_gapLength 18 = .ok (.aload_n 0, 1) := by decide +kernel
theorem dX0_gapLength_19 : decode cX0_gapLength 19 = .ok (.getfield 35, 3) := by decide +kernel
theorem dX0_gapLength_22 : decode cX0_gapLength 22 = .ok (.iload_n 1, 1) := by decide +kernel
theorem dX0_gapLength_23 : decode cX0_gapLength 23 = .ok (.iaload, 1) := by decide +kernel
theorem dX0_gapLength_24 : decode cX0_gapLength 24 = .ok (.iaload, 1) := by decide +kernel
theorem dX0_gapLength_25 : decode cX0_gapLength 25 = .ok (.istore_n 2, 1) := by decide +kernel
theorem dX0_gapLength_26 : decode cX0_gapLength 26 = .ok (.iload_n 2, 1) := by decide +kernel
theorem dX0_gapLength_27 : decode cX0_gapLength 27 = .ok (.aload_n 0, 1) := by decide +kernel
theorem dX0_gapLength_28 : decode cX0_gapLength 28 = .ok (.iload_n 1, 1) := by decide +kernel
theorem dX0_gapLength_29 : decode cX0_gapLength 29 = .ok (.invokevirtual 147, 3) := by decide +kernel
theorem dX0_gapLength_32 : decode cX0_gapLength 32 = .ok (.isub, 1) := by decide +kernel
theorem dX0_gapLength_33 : decode cX0_gapLength 33 = .ok (.ireturn, 1) := by decide +kernel
set_option maxRecDepth 20000 in
theorem ggX0_firstGapOf_X0_gapLength : GoodIn wsX0_firstGapOf wsX0_gapLength := goodIn_ca (goodIn_r _ [6, 1, 7, 8, 9, 10, 11, 5, 12, 13, 14, 15, 16, 17, 18, 19, 20, 21, 22, 23, 24, 25, 26, 27] (by decide +kernel) (by decide +kernel)) (goodIn_sub (fun _ h => List.mem_cons_of_mem _ (List.mem_append_right _ h)) (by decide +kernel))
set_option maxRecDepth 20000 in
theorem gX0_firstGapOf_X0_gapLength : GoodIn wsX0_firstGapOf (wsV RX0 150 RX0 yX0_gapLength wsX0_gapLength) := goodIn_app (goodIn_of _ (by decide +kernel)) ggX0_firstGapOf_X0_gapLength
theorem dX0_firstGapOf_0 : decode cX0_firstGapOf 0 = .ok (.iconst 0, 1) := by decide +kernel
theorem dX0_firstGapOf_1 : decode cX0_firstGapOf 1 = .ok (.istore_n 2, 1) := by decide +kernel
theorem dX0_firstGapOf_2 : decode cX0_firstGapOf 2 = .ok (.iload_n 2, 1) := by decide +kernel
theorem dX0_firstGapOf_3 : decode cX0_firstGapOf 3 = .ok (.aload_n 0, 1) := by decide +kernel
theorem dX0_firstGapOf_4 : decode cX0_firstGapOf 4 = .ok (.getfield 38, 3) := by decide +kernel
theorem dX0_firstGapOf_7 : decode cX0_firstGapOf 7 = .ok (.if_icmp .gt 20, 3) := by decide +kernel
theorem dX0_firstGapOf_10 : decode cX0_firstGapOf 10 = .ok (.aload_n 0, 1) := by decide +kernel
theorem dX0_firstGapOf_11 : decode cX0_firstGapOf 11 = .ok (.iload_n 2, 1) := by decide +kernel
theorem dX0_firstGapOf_12 : decode cX0_firstGapOf 12 = .ok (.invokevirtual 150, 3) := by decide +kernel
theorem dX0_firstGapOf_15 : decode cX0_firstGapOf 15 = .ok (.iload_n 1, 1) := by decide +kernel
theorem dX0_firstGapOf_16 : decode cX0_firstGapOf 16 = .ok (.if_icmp .lt 5, 3) := by decide +kernel
theorem dX0_firstGapOf_19 : decode cX0_firstGapOf 19 = .ok (.iload_n 2, 1) := by decide +kernel
theorem dX0_firstGapOf_20 : decode cX0_firstGapOf 20 = .ok (.ireturn, 1) := by decide +kernel
theorem dX0_firstGapOf_21 : decode cX0_firstGapOf 21 = .ok (.iinc 2 1, 3) := by decide +kernel
theorem dX0_firstGapOf_24 : decode cX0_firstGapOf 24 = .ok (.goto (-22), 3) := by decide +kernel
theorem dX0_firstGapOf_27 : decode cX0_firstGapOf 27 = .ok (.iconst (-1), 1) := by decide +kernel
theorem dX0_firstGapOf_28 : decode cX0_firstGapOf 28 = .ok (.ireturn, 1) := by decide +kernel
set_option maxRecDepth 20000 in
theorem ggX0_greatestGap_X0_gapLength : GoodIn wsX0_greatestGap wsX0_gapLength := goodIn_ca (goodIn_r _ [10, 1, 11, 12, 13, 14, 15, 9, 16, 17, 18, 19, 20, 21, 22, 23, 24, 25, 26, 27, 28, 29, 30, 31] (by decide +kernel) (by decide +kernel)) (goodIn_sub (fun _ h => List.mem_cons_of_mem _ (List.mem_append_right _ h)) (by decide +kernel))
set_option maxRecDepth 20000 in
theorem gX0_greatestGap_X0_gapLength : GoodIn wsX0_greatestGap (wsV RX0 150 RX0 yX0_gapLength wsX0_gapLength) := goodIn_app (goodIn_of _ (by decide +kernel)) ggX0_greatestGap_X0_gapLength
theorem dX0_greatestGap_0 : decode cX0_greatestGap 0 = .ok (.iconst 0, 1) := by decide +kernel
theorem dX0_greatestGap_1 : decode cX0_greatestGap 1 = .ok (.istore_n 1, 1) := by decide +kernel
theorem dX0_greatestGap_2 : decode cX0_greatestGap 2 = .ok (.iconst 0, 1) := by decide +kernel
theorem dX0_greatestGap_3 : decode cX0_greatestGap 3 = .ok (.istore_n 2, 1) := by decide +kernel
theorem dX0_greatestGap_4 : decode cX0_greatestGap 4 = .ok (.iload_n 2, 1) := by decide +kernel
theorem dX0_greatestGap_5 : decode cX0_greatestGap 5 = .ok (.aload_n 0, 1) := by decide +kernel
theorem dX0_greatestGap_6 : decode cX0_greatestGap 6 = .ok (.getfield 38, 3) := by decide +kernel
theorem dX0_greatestGap_9 : decode cX0_greatestGap 9 = .ok (.if_icmp .gt 19, 3) := by decide +kernel
theorem dX0_greatestGap_12 : decode cX0_greatestGap 12 = .ok (.iload_n 1, 1) := by decide +kernel
theorem dX0_greatestGap_13 : decode cX0_greatestGap 13 = .ok (.aload_n 0, 1) := by decide +kernel
theorem dX0_greatestGap_14 : decode cX0_greatestGap 14 = .ok (.iload_n 2, 1) := by decide +kernel
theorem dX0_greatestGap_15 : decode cX0_greatestGap 15 = .ok (.invokevirtual 150, 3) := by decide +kernel
theorem dX0_greatestGap_18 : decode cX0_greatestGap 18 = .ok (.invokestatic 153, 3) := by decide +kernel
theorem dX0_greatestGap_21 : decode cX0_greatestGap 21 = .ok (.istore_n 1, 1) := by decide +kernel
theorem dX0_greatestGap_22 : decode cX0_greatestGap 22 = .ok (.iinc 2 1, 3) := by decide +kernel
theorem dX0_greatestGap_25 : decode cX0_greatestGap 25 = .ok (.goto (-21), 3) := by decide +kernel
theorem dX0_greatestGap_28 : decode cX0_greatestGap 28 = .ok (.iload_n 1, 1) := by decide +kernel
theorem dX0_greatestGap_29 : decode cX0_greatestGap 29 = .ok (.ireturn, 1) := by decide +kernel
set_option maxRecDepth 20000 in
theorem ggX0_countGaps_X0_gapLength : GoodIn wsX0_countGaps wsX0_gapLength := goodIn_ca (goodIn_r _ [6, 1, 7, 8, 9, 10, 11, 5, 12, 13, 14, 15, 16, 17, 18, 19, 20, 21, 22, 23, 24, 25, 26, 27] (by decide +kernel) (by decide +kernel)) (goodIn_sub (fun _ h => List.mem_cons_of_mem _ (List.mem_append_right _ h)) (by decide +kernel))
set_option maxRecDepth 20000 in
theorem gX0_countGaps_X0_gapLength : GoodIn wsX0_countGaps (wsV RX0 150 RX0 yX0_gapLength wsX0_gapLength) := goodIn_app (goodIn_of _ (by decide +kernel)) ggX0_countGaps_X0_gapLength
theorem dX0_countGaps_0 : decode cX0_countGaps 0 = .ok (.iconst 0, 1) := by decide +kernel
theorem dX0_countGaps_1 : decode cX0_countGaps 1 = .ok (.istore_n 1, 1) := by decide +kernel
theorem dX0_countGaps_2 : decode cX0_countGaps 2 = .ok (.iconst 0, 1) := by decide +kernel
theorem dX0_countGaps_3 : decode cX0_countGaps 3 = .ok (.istore_n 2, 1) := by decide +kernel
theorem dX0_countGaps_4 : decode cX0_countGaps 4 = .ok (.iload_n 2, 1) := by decide +kernel
theorem dX0_countGaps_5 : decode cX0_countGaps 5 = .ok (.aload_n 0, 1) := by decide +kernel
theorem dX0_countGaps_6 : decode cX0_countGaps 6 = .ok (.getfield 38, 3) := by decide +kernel
theorem dX0_countGaps_9 : decode cX0_countGaps 9 = .ok (.if_icmp .gt 20, 3) := by decide +kernel
theorem dX0_countGaps_12 : decode cX0_countGaps 12 = .ok (.aload_n 0, 1) := by decide +kernel
theorem dX0_countGaps_13 : decode cX0_countGaps 13 = .ok (.iload_n 2, 1) := by decide +kernel
theorem dX0_countGaps_14 : decode cX0_countGaps 14 = .ok (.invokevirtual 150, 3) := by decide +kernel
theorem dX0_countGaps_17 : decode cX0_countGaps 17 = .ok (.ifCond .le 6, 3) := by decide +kernel
theorem dX0_countGaps_20 : decode cX0_countGaps 20 = .ok (.iinc 1 1, 3) := by decide +kernel
theorem dX0_countGaps_23 : decode cX0_countGaps 23 = .ok (.iinc 2 1, 3) := by decide +kernel
theorem dX0_countGaps_26 : decode cX0_countGaps 26 = .ok (.goto (-22), 3) := by decide +kernel
theorem dX0_countGaps_29 : decode cX0_countGaps 29 = .ok (.iload_n 1, 1) := by decide +kernel
theorem dX0_countGaps_30 : decode cX0_countGaps 30 = .ok (.ireturn, 1) := by decide +kernel
set_option maxRecDepth 20000 in
theorem ggX0_freeBytes_X0_gapLength : GoodIn wsX0_freeBytes wsX0_gapLength := goodIn_ca (goodIn_r _ [6, 1, 7, 8, 9, 10, 11, 5, 12, 13, 14, 15, 16, 17, 18, 19, 20, 21, 22, 23, 24, 25, 26, 27] (by decide +kernel) (by decide +kernel)) (goodIn_sub (fun _ h => List.mem_cons_of_mem _ (List.mem_append_right _ h)) (by decide +kernel))
set_option maxRecDepth 20000 in
theorem gX0_freeBytes_X0_gapLength : GoodIn wsX0_freeBytes (wsV RX0 150 RX0 yX0_gapLength wsX0_gapLength) := goodIn_app (goodIn_of _ (by decide +kernel)) ggX0_freeBytes_X0_gapLength
theorem dX0_freeBytes_0 : decode cX0_freeBytes 0 = .ok (.iconst 0, 1) := by decide +kernel
theorem dX0_freeBytes_1 : decode cX0_freeBytes 1 = .ok (.istore_n 1, 1) := by decide +kernel
theorem dX0_freeBytes_2 : decode cX0_freeBytes 2 = .ok (.iconst 0, 1) := by decide +kernel
theorem dX0_freeBytes_3 : decode cX0_freeBytes 3 = .ok (.istore_n 2, 1) := by decide +kernel
theorem dX0_freeBytes_4 : decode cX0_freeBytes 4 = .ok (.iload_n 2, 1) := by decide +kernel
theorem dX0_freeBytes_5 : decode cX0_freeBytes 5 = .ok (.aload_n 0, 1) := by decide +kernel
theorem dX0_freeBytes_6 : decode cX0_freeBytes 6 = .ok (.getfield 38, 3) := by decide +kernel
theorem dX0_freeBytes_9 : decode cX0_freeBytes 9 = .ok (.if_icmp .gt 17, 3) := by decide +kernel
theorem dX0_freeBytes_12 : decode cX0_freeBytes 12 = .ok (.iload_n 1, 1) := by decide +kernel
theorem dX0_freeBytes_13 : decode cX0_freeBytes 13 = .ok (.aload_n 0, 1) := by decide +kernel
theorem dX0_freeBytes_14 : decode cX0_freeBytes 14 = .ok (.iload_n 2, 1) := by decide +kernel
theorem dX0_freeBytes_15 : decode cX0_freeBytes 15 = .ok (.invokevirtual 150, 3) := by decide +kernel
theorem dX0_freeBytes_18 : decode cX0_freeBytes 18 = .ok (.iadd, 1) := by decide +kernel
theorem dX0_freeBytes_19 : decode cX0_freeBytes 19 = .ok (.istore_n 1, 1) := by decide +kernel
theorem dX0_freeBytes_20 : decode cX0_freeBytes 20 = .ok (.iinc 2 1, 3) := by decide +kernel
theorem dX0_freeBytes_23 : decode cX0_freeBytes 23 = .ok (.goto (-19), 3) := by decide +kernel
theorem dX0_freeBytes_26 : decode cX0_freeBytes 26 = .ok (.iload_n 1, 1) := by decide +kernel
theorem dX0_freeBytes_27 : decode cX0_freeBytes 27 = .ok (.ireturn, 1) := by decide +kernel
set_option maxRecDepth 20000 in
theorem ggX0_freeBehind_X0_gapLength : GoodIn wsX0_freeBehind wsX0_gapLength := goodIn_ca (goodIn_r _ [7, 1, 8, 2, 9, 10, 11, 6, 12, 13, 14, 15, 16, 17, 18, 19, 20, 21, 22, 23, 24, 25, 26, 27] (by decide +kernel) (by decide +kernel)) (goodIn_sub (fun _ h => List.mem_cons_of_mem _ (List.mem_append_right _ h)) (by decide +kernel))
set_option maxRecDepth 20000 in
theorem gX0_freeBehind_X0_gapLength : GoodIn wsX0_freeBehind (wsV RX0 150 RX0 yX0_gapLength wsX0_gapLength) := goodIn_app (goodIn_of _ (by decide +kernel)) ggX0_freeBehind_X0_gapLength
theorem dX0_freeBehind_0 : decode cX0_freeBehind 0 = .ok (.iconst 0, 1) := by decide +kernel
theorem dX0_freeBehind_1 : decode cX0_freeBehind 1 = .ok (.istore_n 2, 1) := by decide +kernel
theorem dX0_freeBehind_2 : decode cX0_freeBehind 2 = .ok (.iload_n 2, 1) := by decide +kernel
theorem dX0_freeBehind_3 : decode cX0_freeBehind 3 = .ok (.aload_n 0, 1) := by decide +kernel
theorem dX0_freeBehind_4 : decode cX0_freeBehind 4 = .ok (.getfield 38, 3) := by decide +kernel
theorem dX0_freeBehind_7 : decode cX0_freeBehind 7 = .ok (.if_icmp .ge 27, 3) := by decide +kernel
theorem dX0_freeBehind_10 : decode cX0_freeBehind 10 = .ok (.aload_n 0, 1) := by decide +kernel
theorem dX0_freeBehind_11 : decode cX0_freeBehind 11 = .ok (.getfield 35, 3) := by decide +kernel
theorem dX0_freeBehind_14 : decode cX0_freeBehind 14 = .ok (.iload_n 2, 1) := by decide +kernel
theorem dX0_freeBehind_15 : decode cX0_freeBehind 15 = .ok (.iaload, 1) := by decide +kernel
theorem dX0_freeBehind_16 : decode cX0_freeBehind 16 = .ok (.iload_n 1, 1) := by decide +kernel
theorem dX0_freeBehind_17 : decode cX0_freeBehind 17 = .ok (.if_icmp .ne 11, 3) := by decide +kernel
theorem dX0_freeBehind_20 : decode cX0_freeBehind 20 = .ok (.aload_n 0, 1) := by decide +kernel
theorem dX0_freeBehind_21 : decode cX0_freeBehind 21 = .ok (.iload_n 2, 1) := by decide +kernel
theorem dX0_freeBehind_22 : decode cX0_freeBehind 22 = .ok (.iconst 1, 1) := by decide +kernel
theorem dX0_freeBehind_23 : decode cX0_freeBehind 23 = .ok (.iadd, 1) := by decide +kernel
theorem dX0_freeBehind_24 : decode cX0_freeBehind 24 = .ok (.invokevirtual 150, 3) := by decide +kernel
theorem dX0_freeBehind_27 : decode cX0_freeBehind 27 = .ok (.ireturn, 1) := by decide +kernel
end
section
theorem dX0_freeBehind_28 : decode cX0_freeBehind 28 = .ok (.iinc 2 1, 3) := by decide +kernel
theorem dX0_freeBehind_31 : decode cX0_freeBehind 31 = .ok (.goto (-29), 3) := by decide +kernel
theorem dX0_freeBehind_34 : decode cX0_freeBehind 34 = .ok (.iconst 0, 1) := by decide +kernel
theorem dX0_freeBehind_35 : decode cX0_freeBehind 35 = .ok (.ireturn, 1) := by decide +kernel
theorem dX0_enterRow_0 : decode cX0_enterRow 0 = .ok (.aload_n 0, 1) := by decide +kernel
theorem dX0_enterRow_1 : decode cX0_enterRow 1 = .ok (.getfield 38, 3) := by decide +kernel
theorem dX0_enterRow_4 : decode cX0_enterRow 4 = .ok (.istore_n 2, 1) := by decide +kernel
theorem dX0_enterRow_5 : decode cX0_enterRow 5 = .ok (.iload_n 2, 1) := by decide +kernel
theorem dX0_enterRow_6 : decode cX0_enterRow 6 = .ok (.ifCond .le 45, 3) := by decide +kernel
theorem dX0_enterRow_9 : decode cX0_enterRow 9 = .ok (.aload_n 0, 1) := by decide +kernel
theorem dX0_enterRow_10 : decode cX0_enterRow 10 = .ok (.getfield 13, 3) := by decide +kernel
theorem dX0_enterRow_13 : decode cX0_enterRow 13 = .ok (.aload_n 0, 1) := by decide +kernel
theorem dX0_enterRow_14 : decode cX0_enterRow 14 = .ok (.getfield 35, 3) := by decide +kernel
theorem dX0_enterRow_17 : decode cX0_enterRow 17 = .ok (.iload_n 2, 1) := by decide +kernel
theorem dX0_enterRow_18 : decode cX0_enterRow 18 = .ok (.iconst 1, 1) := by decide +kernel
theorem dX0_enterRow_19 : decode cX0_enterRow 19 = .ok (.isub, 1) := by decide +kernel
theorem dX0_enterRow_20 : decode cX0_enterRow 20 = .ok (.iaload, 1) := by decide +kernel
theorem dX0_enterRow_21 : decode cX0_enterRow 21 = .ok (.iaload, 1) := by decide +kernel
theorem dX0_enterRow_22 : decode cX0_enterRow 22 = .ok (.aload_n 0, 1) := by decide +kernel
theorem dX0_enterRow_23 : decode cX0_enterRow 23 = .ok (.getfield 13, 3) := by decide +kernel
theorem dX0_enterRow_26 : decode cX0_enterRow 26 = .ok (.iload_n 1, 1) := by decide +kernel
theorem dX0_enterRow_27 : decode cX0_enterRow 27 = .ok (.iaload, 1) := by decide +kernel
theorem dX0_enterRow_28 : decode cX0_enterRow 28 = .ok (.if_icmp .le 23, 3) := by decide +kernel
theorem dX0_enterRow_31 : decode cX0_enterRow 31 = .ok (.aload_n 0, 1) := by decide +kernel
theorem dX0_enterRow_32 : decode cX0_enterRow 32 = .ok (.getfield 35, 3) := by decide +kernel
theorem dX0_enterRow_35 : decode cX0_enterRow 35 = .ok (.iload_n 2, 1) := by decide +kernel
theorem dX0_enterRow_36 : decode cX0_enterRow 36 = .ok (.aload_n 0, 1) := by decide +kernel
theorem dX0_enterRow_37 : decode cX0_enterRow 37 = .ok (.getfield 35, 3) := by decide +kernel
theorem dX0_enterRow_40 : decode cX0_enterRow 40 = .ok (.iload_n 2, 1) := by decide +kernel
theorem dX0_enterRow_41 : decode cX0_enterRow 41 = .ok (.iconst 1, 1) := by decide +kernel
theorem dX0_enterRow_42 : decode cX0_enterRow 42 = .ok (.isub, 1) := by decide +kernel
theorem dX0_enterRow_43 : decode cX0_enterRow 43 = .ok (.iaload, 1) := by decide +kernel
theorem dX0_enterRow_44 : decode cX0_enterRow 44 = .ok (.iastore, 1) := by decide +kernel
theorem dX0_enterRow_45 : decode cX0_enterRow 45 = .ok (.iinc 2 (-1), 3) := by decide +kernel
theorem dX0_enterRow_48 : decode cX0_enterRow 48 = .ok (.goto (-43), 3) := by decide +kernel
theorem dX0_enterRow_51 : decode cX0_enterRow 51 = .ok (.aload_n 0, 1) := by decide +kernel
theorem dX0_enterRow_52 : decode cX0_enterRow 52 = .ok (.getfield 35, 3) := by decide +kernel
theorem dX0_enterRow_55 : decode cX0_enterRow 55 = .ok (.iload_n 2, 1) := by decide +kernel
theorem dX0_enterRow_56 : decode cX0_enterRow 56 = .ok (.iload_n 1, 1) := by decide +kernel
theorem dX0_enterRow_57 : decode cX0_enterRow 57 = .ok (.iastore, 1) := by decide +kernel
theorem dX0_enterRow_58 : decode cX0_enterRow 58 = .ok (.aload_n 0, 1) := by decide +kernel
theorem dX0_enterRow_59 : decode cX0_enterRow 59 = .ok (.dup, 1) := by decide +kernel
theorem dX0_enterRow_60 : decode cX0_enterRow 60 = .ok (.getfield 38, 3) := by decide +kernel
theorem dX0_enterRow_63 : decode cX0_enterRow 63 = .ok (.iconst 1, 1) := by decide +kernel
theorem dX0_enterRow_64 : decode cX0_enterRow 64 = .ok (.iadd, 1) := by decide +kernel
theorem dX0_enterRow_65 : decode cX0_enterRow 65 = .ok (.putfield 38, 3) := by decide +kernel
theorem dX0_enterRow_68 : decode cX0_enterRow 68 = .ok (.return_, 1) := by decide +kernel
theorem dX0_leaveRow_0 : decode cX0_leaveRow 0 = .ok (.iconst 0, 1) := by decide +kernel
theorem dX0_leaveRow_1 : decode cX0_leaveRow 1 = .ok (.istore_n 2, 1) := by decide +kernel
theorem dX0_leaveRow_2 : decode cX0_leaveRow 2 = .ok (.iconst 0, 1) := by decide +kernel
theorem dX0_leaveRow_3 : decode cX0_leaveRow 3 = .ok (.istore_n 3, 1) := by decide +kernel
theorem dX0_leaveRow_4 : decode cX0_leaveRow 4 = .ok (.iload_n 3, 1) := by decide +kernel
theorem dX0_leaveRow_5 : decode cX0_leaveRow 5 = .ok (.aload_n 0, 1) := by decide +kernel
theorem dX0_leaveRow_6 : decode cX0_leaveRow 6 = .ok (.getfield 38, 3) := by decide +kernel
theorem dX0_leaveRow_9 : decode cX0_leaveRow 9 = .ok (.if_icmp .ge 34, 3) := by decide +kernel
theorem dX0_leaveRow_12 : decode cX0_leaveRow 12 = .ok (.aload_n 0, 1) := by decide +kernel
theorem dX0_leaveRow_13 : decode cX0_leaveRow 13 = .ok (.getfield 35, 3) := by decide +kernel
theorem dX0_leaveRow_16 : decode cX0_leaveRow 16 = .ok (.iload_n 3, 1) := by decide +kernel
theorem dX0_leaveRow_17 : decode cX0_leaveRow 17 = .ok (.iaload, 1) := by decide +kernel
theorem dX0_leaveRow_18 : decode cX0_leaveRow 18 = .ok (.iload_n 1, 1) := by decide +kernel
theorem dX0_leaveRow_19 : decode cX0_leaveRow 19 = .ok (.if_icmp .eq 18, 3) := by decide +kernel
theorem dX0_leaveRow_22 : decode cX0_leaveRow 22 = .ok (.aload_n 0, 1) := by decide +kernel
theorem dX0_leaveRow_23 : decode cX0_leaveRow 23 = .ok (.getfield 35, 3) := by decide +kernel
theorem dX0_leaveRow_26 : decode cX0_leaveRow 26 = .ok (.iload_n 2, 1) := by decide +kernel
theorem dX0_leaveRow_27 : decode cX0_leaveRow 27 = .ok (.aload_n 0, 1) := by decide +kernel
theorem dX0_leaveRow_28 : decode cX0_leaveRow 28 = .ok (.getfield 35, 3) := by decide +kernel
theorem dX0_leaveRow_31 : decode cX0_leaveRow 31 = .ok (.iload_n 3, 1) := by decide +kernel
theorem dX0_leaveRow_32 : decode cX0_leaveRow 32 = .ok (.iaload, 1) := by decide +kernel
theorem dX0_leaveRow_33 : decode cX0_leaveRow 33 = .ok (.iastore, 1) := by decide +kernel
theorem dX0_leaveRow_34 : decode cX0_leaveRow 34 = .ok (.iinc 2 1, 3) := by decide +kernel
theorem dX0_leaveRow_37 : decode cX0_leaveRow 37 = .ok (.iinc 3 1, 3) := by decide +kernel
theorem dX0_leaveRow_40 : decode cX0_leaveRow 40 = .ok (.goto (-36), 3) := by decide +kernel
theorem dX0_leaveRow_43 : decode cX0_leaveRow 43 = .ok (.aload_n 0, 1) := by decide +kernel
theorem dX0_leaveRow_44 : decode cX0_leaveRow 44 = .ok (.iload_n 2, 1) := by decide +kernel
theorem dX0_leaveRow_45 : decode cX0_leaveRow 45 = .ok (.putfield 38, 3) := by decide +kernel
theorem dX0_leaveRow_48 : decode cX0_leaveRow 48 = .ok (.return_, 1) := by decide +kernel
set_option maxRecDepth 20000 in
theorem ggX0_makeBlock_X0_findRoom : GoodIn wsX0_makeBlock wsX0_findRoom := goodIn_ca (goodIn_r _ [9, 10, 11, 12, 8, 13, 14, 15, 16, 17, 18, 1, 19, 20, 21, 22, 23, 24, 25, 26, 27, 28, 29, 30, 31, 32, 33, 34, 35, 36, 2, 3, 37, 38, 39, 40, 41, 42, 43, 44, 45, 46, 47, 48, 49, 50, 4, 51, 52, 53, 54, 55, 56, 57, 58, 59, 60, 61, 62, 63, 85, 86, 87, 88, 89, 90, 91, 92, 93, 94] (by decide +kernel) (by decide +kernel)) (goodIn_sub (fun _ h => List.mem_cons_of_mem _ (List.mem_append_right _ h)) (by decide +kernel))
set_option maxRecDepth 20000 in
theorem gX0_makeBlock_X0_findRoom : GoodIn wsX0_makeBlock (wsV RX0 159 RX0 yX0_findRoom wsX0_findRoom) := goodIn_app (goodIn_of _ (by decide +kernel)) ggX0_makeBlock_X0_findRoom
set_option maxRecDepth 20000 in
theorem ggX0_makeBlock_X0_setLength : GoodIn wsX0_makeBlock wsX0_setLength := goodIn_ca (goodIn_r _ [67, 28, 41, 1, 24, 25, 26, 8, 27, 68, 69, 70, 71, 72, 73, 74, 75, 76, 77, 78, 79, 80, 85, 86, 87, 88, 89, 90, 91, 92, 93, 94, 95, 96, 97, 98, 99, 100, 101, 102, 103, 104] (by decide +kernel) (by decide +kernel)) (goodIn_sub (fun _ h => List.mem_cons_of_mem _ (List.mem_append_right _ h)) (by decide +kernel))
set_option maxRecDepth 20000 in
theorem gX0_makeBlock_X0_setLength : GoodIn wsX0_makeBlock (wsV RX0 71 RX0 yX0_setLength wsX0_setLength) := goodIn_app (goodIn_of _ (by decide +kernel)) ggX0_makeBlock_X0_setLength
set_option maxRecDepth 20000 in
theorem ggX0_makeBlock_X0_enterRow : GoodIn wsX0_makeBlock wsX0_enterRow := goodIn_ca (goodIn_r _ [84, 14, 1, 19, 85, 86, 87, 88, 89, 90, 91, 92, 93, 94] (by decide +kernel) (by decide +kernel)) (goodIn_sub (fun _ h => List.mem_cons_of_mem _ (List.mem_append_right _ h)) (by decide +kernel))
set_option maxRecDepth 20000 in
theorem gX0_makeBlock_X0_enterRow : GoodIn wsX0_makeBlock (wsV RX0 162 RX0 yX0_enterRow wsX0_enterRow) := goodIn_app (goodIn_of _ (by decide +kernel)) ggX0_makeBlock_X0_enterRow
theorem dX0_makeBlock_0 : decode cX0_makeBlock 0 = .ok (.aload_n 0, 1) := by decide +kernel
theorem dX0_makeBlock_1 : decode cX0_makeBlock 1 = .ok (.iload_n 2, 1) := by decide +kernel
theorem dX0_makeBlock_2 : decode cX0_makeBlock 2 = .ok (.iconst (-1), 1) := by decide +kernel
theorem dX0_makeBlock_3 : decode cX0_makeBlock 3 = .ok (.invokevirtual 159, 3) := by decide +kernel
theorem dX0_makeBlock_6 : decode cX0_makeBlock 6 = .ok (.istore 4, 2) := by decide +kernel
theorem dX0_makeBlock_8 : decode cX0_makeBlock 8 = .ok (.iload 4, 2) := by decide +kernel
theorem dX0_makeBlock_10 : decode cX0_makeBlock 10 = .ok (.iconst (-1), 1) := by decide +kernel
theorem dX0_makeBlock_11 : decode cX0_makeBlock 11 = .ok (.if_icmp .ne 5, 3) := by decide +kernel
theorem dX0_makeBlock_14 : decode cX0_makeBlock 14 = .ok (.iconst 0, 1) := by decide +kernel
theorem dX0_makeBlock_15 : decode cX0_makeBlock 15 = .ok (.ireturn, 1) := by decide +kernel
theorem dX0_makeBlock_16 : decode cX0_makeBlock 16 = .ok (.aload_n 0, 1) := by decide +kernel
theorem dX0_makeBlock_17 : decode cX0_makeBlock 17 = .ok (.getfield 13, 3) := by decide +kernel
theorem dX0_makeBlock_20 : decode cX0_makeBlock 20 = .ok (.iload_n 1, 1) := by decide +kernel
theorem dX0_makeBlock_21 : decode cX0_makeBlock 21 = .ok (.iload 4, 2) := by decide +kernel
theorem dX0_makeBlock_23 : decode cX0_makeBlock 23 = .ok (.iastore, 1) := by decide +kernel
theorem dX0_makeBlock_24 : decode cX0_makeBlock 24 = .ok (.aload_n 0, 1) := by decide +kernel
theorem dX0_makeBlock_25 : decode cX0_makeBlock 25 = .ok (.iload_n 1, 1) := by decide +kernel
theorem dX0_makeBlock_26 : decode cX0_makeBlock 26 = .ok (.iload_n 2, 1) := by decide +kernel
theorem dX0_makeBlock_27 : decode cX0_makeBlock 27 = .ok (.invokevirtual 71, 3) := by decide +kernel
theorem dX0_makeBlock_30 : decode cX0_makeBlock 30 = .ok (.aload_n 0, 1) := by decide +kernel
theorem dX0_makeBlock_31 : decode cX0_makeBlock 31 = .ok (.getfield 25, 3) := by decide +kernel
theorem dX0_makeBlock_34 : decode cX0_makeBlock 34 = .ok (.iload_n 1, 1) := by decide +kernel
theorem dX0_makeBlock_35 : decode cX0_makeBlock 35 = .ok (.iload_n 3, 1) := by decide +kernel
theorem dX0_makeBlock_36 : decode cX0_makeBlock 36 = .ok (.bastore, 1) := by decide +kernel
theorem dX0_makeBlock_37 : decode cX0_makeBlock 37 = .ok (.aload_n 0, 1) := by decide +kernel
theorem dX0_makeBlock_38 : decode cX0_makeBlock 38 = .ok (.getfield 29, 3) := by decide +kernel
theorem dX0_makeBlock_41 : decode cX0_makeBlock 41 = .ok (.iload_n 1, 1) := by decide +kernel
theorem dX0_makeBlock_42 : decode cX0_makeBlock 42 = .ok (.iconst 0, 1) := by decide +kernel
theorem dX0_makeBlock_43 : decode cX0_makeBlock 43 = .ok (.bastore, 1) := by decide +kernel
theorem dX0_makeBlock_44 : decode cX0_makeBlock 44 = .ok (.aload_n 0, 1) := by decide +kernel
theorem dX0_makeBlock_45 : decode cX0_makeBlock 45 = .ok (.getfield 32, 3) := by decide +kernel
theorem dX0_makeBlock_48 : decode cX0_makeBlock 48 = .ok (.iload_n 1, 1) := by decide +kernel
theorem dX0_makeBlock_49 : decode cX0_makeBlock 49 = .ok (.iconst 0, 1) := by decide +kernel
theorem dX0_makeBlock_50 : decode cX0_makeBlock 50 = .ok (.bastore, 1) := by decide +kernel
theorem dX0_makeBlock_51 : decode cX0_makeBlock 51 = .ok (.aload_n 0, 1) := by decide +kernel
theorem dX0_makeBlock_52 : decode cX0_makeBlock 52 = .ok (.iload_n 1, 1) := by decide +kernel
theorem dX0_makeBlock_53 : decode cX0_makeBlock 53 = .ok (.invokevirtual 162, 3) := by decide +kernel
theorem dX0_makeBlock_56 : decode cX0_makeBlock 56 = .ok (.iconst 1, 1) := by decide +kernel
theorem dX0_makeBlock_57 : decode cX0_makeBlock 57 = .ok (.ireturn, 1) := by decide +kernel
set_option maxRecDepth 20000 in
theorem ggX0_takeBlock_X0_leaveRow : GoodIn wsX0_takeBlock wsX0_leaveRow := goodIn_ca (goodIn_r _ [7, 8, 9, 10, 11, 12, 13, 14, 15, 16, 17, 18, 19] (by decide +kernel) (by decide +kernel)) (goodIn_sub (fun _ h => List.mem_cons_of_mem _ (List.mem_append_right _ h)) (by decide +kernel))
set_option maxRecDepth 20000 in
theorem gX0_takeBlock_X0_leaveRow : GoodIn wsX0_takeBlock (wsV RX0 165 RX0 yX0_leaveRow wsX0_leaveRow) := goodIn_app (goodIn_of _ (by decide +kernel)) ggX0_takeBlock_X0_leaveRow
theorem dX0_takeBlock_0 : decode cX0_takeBlock 0 = .ok (.aload_n 0, 1) := by decide +kernel
theorem dX0_takeBlock_1 : decode cX0_takeBlock 1 = .ok (.iload_n 1, 1) := by decide +kernel
theorem dX0_takeBlock_2 : decode cX0_takeBlock 2 = .ok (.invokevirtual 165, 3) := by decide +kernel
theorem dX0_takeBlock_5 : decode cX0_takeBlock 5 = .ok (.aload_n 0, 1) := by decide +kernel
theorem dX0_takeBlock_6 : decode cX0_takeBlock 6 = .ok (.getfield 13, 3) := by decide +kernel
theorem dX0_takeBlock_9 : decode cX0_takeBlock 9 = .ok (.iload_n 1, 1) := by decide +kernel
theorem dX0_takeBlock_10 : decode cX0_takeBlock 10 = .ok (.iload_n 2, 1) := by decide +kernel
theorem dX0_takeBlock_11 : decode cX0_takeBlock 11 = .ok (.iastore, 1) := by decide +kernel
theorem dX0_takeBlock_12 : decode cX0_takeBlock 12 = .ok (.aload_n 0, 1) := by decide +kernel
theorem dX0_takeBlock_13 : decode cX0_takeBlock 13 = .ok (.getfield 22, 3) := by decide +kernel
theorem dX0_takeBlock_16 : decode cX0_takeBlock 16 = .ok (.iload_n 1, 1) := by decide +kernel
theorem dX0_takeBlock_17 : decode cX0_takeBlock 17 = .ok (.iconst 0, 1) := by decide +kernel
theorem dX0_takeBlock_18 : decode cX0_takeBlock 18 = .ok (.iastore, 1) := by decide +kernel
theorem dX0_takeBlock_19 : decode cX0_takeBlock 19 = .ok (.return_, 1) := by decide +kernel
set_option maxRecDepth 20000 in
theorem ggX0_setLength_X0_endOf : GoodIn wsX0_setLength wsX0_endOf := goodIn_ca (goodIn_r _ [8, 3, 1, 22, 23, 24, 25, 26, 27, 28, 29, 30, 31] (by decide +kernel) (by decide +kernel)) (goodIn_sub (fun _ h => List.mem_cons_of_mem _ (List.mem_append_right _ h)) (by decide +kernel))
set_option maxRecDepth 20000 in
theorem gX0_setLength_X0_endOf : GoodIn wsX0_setLength (wsV RX0 120 RX0 yX0_endOf wsX0_endOf) := goodIn_app (goodIn_of _ (by decide +kernel)) ggX0_setLength_X0_endOf
set_option maxRecDepth 20000 in
theorem ggX0_setLength_J7_fill_fda19 : GoodIn wsX0_setLength wsJ7_fill_fda19 := goodIn_r _ [12, 13, 14, 11, 15, 16, 17, 18, 19, 20, 21, 32, 33, 34, 35, 36, 37, 38, 39, 40, 41] (by decide +kernel) (by decide +kernel)
set_option maxRecDepth 20000 in
theorem gX0_setLength_J7_fill_fda19 : GoodIn wsX0_setLength (va_wsS RX0 168 yJ7_fill_fda19 wsJ7_fill_fda19) := goodIn_app (goodIn_of _ (by decide +kernel)) ggX0_setLength_J7_fill_fda19
theorem dX0_setLength_0 : decode cX0_setLength 0 = .ok (.iload_n 2, 1) := by decide +kernel
theorem dX0_setLength_1 : decode cX0_setLength 1 = .ok (.aload_n 0, 1) := by decide +kernel
theorem dX0_setLength_2 : decode cX0_setLength 2 = .ok (.getfield 22, 3) := by decide +kernel
theorem dX0_setLength_5 : decode cX0_setLength 5 = .ok (.iload_n 1, 1) := by decide +kernel
theorem dX0_setLength_6 : decode cX0_setLength 6 = .ok (.iaload, 1) := by decide +kernel
theorem dX0_setLength_7 : decode cX0_setLength 7 = .ok (.if_icmp .le 24, 3) := by decide +kernel
theorem dX0_setLength_10 : decode cX0_setLength 10 = .ok (.aload_n 0, 1) := by decide +kernel
theorem dX0_setLength_11 : decode cX0_setLength 11 = .ok (.getfield 9, 3) := by decide +kernel
theorem dX0_setLength_14 : decode cX0_setLength 14 = .ok (.aload_n 0, 1) := by decide +kernel
theorem dX0_setLength_15 : decode cX0_setLength 15 = .ok (.iload_n 1, 1) := by decide +kernel
theorem dX0_setLength_16 : decode cX0_setLength 16 = .ok (.invokevirtual 120, 3) := by decide +kernel
theorem dX0_setLength_19 : decode cX0_setLength 19 = .ok (.aload_n 0, 1) := by decide +kernel
theorem dX0_setLength_20 : decode cX0_setLength 20 = .ok (.getfield 13, 3) := by decide +kernel
theorem dX0_setLength_23 : decode cX0_setLength 23 = .ok (.iload_n 1, 1) := by decide +kernel
theorem dX0_setLength_24 : decode cX0_setLength 24 = .ok (.iaload, 1) := by decide +kernel
theorem dX0_setLength_25 : decode cX0_setLength 25 = .ok (.iload_n 2, 1) := by decide +kernel
theorem dX0_setLength_26 : decode cX0_setLength 26 = .ok (.iadd, 1) := by decide +kernel
theorem dX0_setLength_27 : decode cX0_setLength 27 = .ok (.iconst 0, 1) := by decide +kernel
theorem dX0_setLength_28 : decode cX0_setLength 28 = .ok (.invokestatic 168, 3) := by decide +kernel
theorem dX0_setLength_31 : decode cX0_setLength 31 = .ok (.aload_n 0, 1) := by decide +kernel
theorem dX0_setLength_32 : decode cX0_setLength 32 = .ok (.getfield 22, 3) := by decide +kernel
theorem dX0_setLength_35 : decode cX0_setLength 35 = .ok (.iload_n 1, 1) := by decide +kernel
theorem dX0_setLength_36 : decode cX0_setLength 36 = .ok (.iload_n 2, 1) := by decide +kernel
theorem dX0_setLength_37 : decode cX0_setLength 37 = .ok (.iastore, 1) := by decide +kernel
theorem dX0_setLength_38 : decode cX0_setLength 38 = .ok (.return_, 1) := by decide +kernel
set_option maxRecDepth 20000 in
theorem ggX0_growElsewhere_X0_findRoom : GoodIn wsX0_growElsewhere wsX0_findRoom := goodIn_ca (goodIn_r _ [5, 6, 7, 8, 4, 9, 10, 11, 12, 13, 14, 15, 16, 17, 18, 19, 20, 21, 22, 23, 24, 25, 26, 27, 28, 29, 30, 31, 32, 33, 34, 35, 36, 37, 38, 39, 40, 41, 42, 43, 44, 45, 46, 47, 48, 49, 50, 51, 52, 53, 54, 55, 56, 57, 58, 59, 60, 61, 62, 63, 85, 86, 87, 88, 89, 90, 91, 92, 93, 94] (by decide +kernel) (by decide +kernel)) (goodIn_sub (fun _ h => List.mem_cons_of_mem _ (List.mem_append_right _ h)) (by decide +kernel))
set_option maxRecDepth 20000 in
theorem gX0_growElsewhere_X0_findRoom : GoodIn wsX0_growElsewhere (wsV RX0 159 RX0 yX0_findRoom wsX0_findRoom) := goodIn_app (goodIn_of _ (by decide +kernel)) ggX0_growElsewhere_X0_findRoom
set_option maxRecDepth 20000 in
theorem ggX0_growElsewhere_X0_leaveRow : GoodIn wsX0_growElsewhere wsX0_leaveRow := goodIn_ca (goodIn_r _ [63, 10, 16, 85, 86, 87, 88, 89, 90, 91, 92, 93, 94] (by decide +kernel) (by decide +kernel)) (goodIn_sub (fun _ h => List.mem_cons_of_mem _ (List.mem_append_right _ h)) (by decide +kernel))
set_option maxRecDepth 20000 in
theorem gX0_growElsewhere_X0_leaveRow : GoodIn wsX0_growElsewhere (wsV RX0 165 RX0 yX0_leaveRow wsX0_leaveRow) := goodIn_app (goodIn_of _ (by decide +kernel)) ggX0_growElsewhere_X0_leaveRow
set_option maxRecDepth 20000 in
theorem ggX0_growElsewhere_X0_moveTo : GoodIn wsX0_growElsewhere wsX0_moveTo := goodIn_ca (goodIn_r _ [39, 15, 40, 25, 41, 42, 43, 44, 45, 85, 86, 87, 88, 89, 90, 91, 92, 93, 94] (by decide +kernel) (by decide +kernel)) (goodIn_sub (fun _ h => List.mem_cons_of_mem _ (List.mem_append_right _ h)) (by decide +kernel))
set_option maxRecDepth 20000 in
theorem gX0_growElsewhere_X0_moveTo : GoodIn wsX0_growElsewhere (wsV RX0 95 RX0 yX0_moveTo wsX0_moveTo) := goodIn_app (goodIn_of _ (by decide +kernel)) ggX0_growElsewhere_X0_moveTo
set_option maxRecDepth 20000 in
theorem ggX0_growElsewhere_X0_enterRow : GoodIn wsX0_growElsewhere wsX0_enterRow := goodIn_ca (goodIn_r _ [67, 10, 15, 16, 85, 86, 87, 88, 89, 90, 91, 92, 93, 94] (by decide +kernel) (by decide +kernel)) (goodIn_sub (fun _ h => List.mem_cons_of_mem _ (List.mem_append_right _ h)) (by decide +kernel))
set_option maxRecDepth 20000 in
theorem gX0_growElsewhere_X0_enterRow : GoodIn wsX0_growElsewhere (wsV RX0 162 RX0 yX0_enterRow wsX0_enterRow) := goodIn_app (goodIn_of _ (by decide +kernel)) ggX0_growElsewhere_X0_enterRow
set_option maxRecDepth 20000 in
theorem ggX0_growElsewhere_X0_setLength : GoodIn wsX0_growElsewhere wsX0_setLength := goodIn_ca (goodIn_r _ [71, 25, 40, 15, 21, 22, 23, 4, 24, 72, 73, 74, 75, 76, 77, 78, 79, 80, 81, 82, 83, 84, 85, 86, 87, 88, 89, 90, 91, 92, 93, 94, 95, 96, 97, 98, 99, 100, 101, 102, 103, 104] (by decide +kernel) (by decide +kernel)) (goodIn_sub (fun _ h => List.mem_cons_of_mem _ (List.mem_append_right _ h)) (by decide +kernel))
set_option maxRecDepth 20000 in
theorem gX0_growElsewhere_X0_setLength : GoodIn wsX0_growElsewhere (wsV RX0 71 RX0 yX0_setLength wsX0_setLength) := goodIn_app (goodIn_of _ (by decide +kernel)) ggX0_growElsewhere_X0_setLength
theorem dX0_growElsewhere_0 : decode cX0_growElsewhere 0 = .ok (.aload_n 0, 1) := by decide +kernel
theorem dX0_growElsewhere_1 : decode cX0_growElsewhere 1 = .ok (.iload_n 2, 1) := by decide +kernel
theorem dX0_growElsewhere_2 : decode cX0_growElsewhere 2 = .ok (.iload_n 1, 1) := by decide +kernel
theorem dX0_growElsewhere_3 : decode cX0_growElsewhere 3 = .ok (.invokevirtual 159, 3) := by decide +kernel
theorem dX0_growElsewhere_6 : decode cX0_growElsewhere 6 = .ok (.istore_n 3, 1) := by decide +kernel
theorem dX0_growElsewhere_7 : decode cX0_growElsewhere 7 = .ok (.iload_n 3, 1) := by decide +kernel
theorem dX0_growElsewhere_8 : decode cX0_growElsewhere 8 = .ok (.iconst (-1), 1) := by decide +kernel
theorem dX0_growElsewhere_9 : decode cX0_growElsewhere 9 = .ok (.if_icmp .ne 5, 3) := by decide +kernel
theorem dX0_growElsewhere_12 : decode cX0_growElsewhere 12 = .ok (.iconst 0, 1) := by decide +kernel
theorem dX0_growElsewhere_13 : decode cX0_growElsewhere 13 = .ok (.ireturn, 1) := by decide +kernel
theorem dX0_growElsewhere_14 : decode cX0_growElsewhere 14 = .ok (.aload_n 0, 1) := by decide +kernel
theorem dX0_growElsewhere_15 : decode cX0_growElsewhere 15 = .ok (.iload_n 1, 1) := by decide +kernel
theorem dX0_growElsewhere_16 : decode cX0_growElsewhere 16 = .ok (.invokevirtual 165, 3) := by decide +kernel
theorem dX0_growElsewhere_19 : decode cX0_growElsewhere 19 = .ok (.aload_n 0, 1) := by decide +kernel
theorem dX0_growElsewhere_20 : decode cX0_growElsewhere 20 = .ok (.iload_n 1, 1) := by decide +kernel
theorem dX0_growElsewhere_21 : decode cX0_growElsewhere 21 = .ok (.iload_n 3, 1) := by decide +kernel
theorem dX0_growElsewhere_22 : decode cX0_growElsewhere 22 = .ok (.invokevirtual 95, 3) := by decide +kernel
theorem dX0_growElsewhere_25 : decode cX0_growElsewhere 25 = .ok (.aload_n 0, 1) := by decide +kernel
theorem dX0_growElsewhere_26 : decode cX0_growElsewhere 26 = .ok (.iload_n 1, 1) := by decide +kernel
theorem dX0_growElsewhere_27 : decode cX0_growElsewhere 27 = .ok (.invokevirtual 162, 3) := by decide +kernel
theorem dX0_growElsewhere_30 : decode cX0_growElsewhere 30 = .ok (.aload_n 0, 1) := by decide +kernel
theorem dX0_growElsewhere_31 : decode cX0_growElsewhere 31 = .ok (.iload_n 1, 1) := by decide +kernel
theorem dX0_growElsewhere_32 : decode cX0_growElsewhere 32 = .ok (.iload_n 2, 1) := by decide +kernel
theorem dX0_growElsewhere_33 : decode cX0_growElsewhere 33 = .ok (.invokevirtual 71, 3) := by decide +kernel
theorem dX0_growElsewhere_36 : decode cX0_growElsewhere 36 = .ok (.iconst 1, 1) := by decide +kernel
theorem dX0_growElsewhere_37 : decode cX0_growElsewhere 37 = .ok (.ireturn, 1) := by decide +kernel
theorem dX0_moveTo_0 : decode cX0_moveTo 0 = .ok (.iload_n 2, 1) := by decide +kernel
theorem dX0_moveTo_1 : decode cX0_moveTo 1 = .ok (.aload_n 0, 1) := by decide +kernel
theorem dX0_moveTo_2 : decode cX0_moveTo 2 = .ok (.getfield 13, 3) := by decide +kernel
theorem dX0_moveTo_5 : decode cX0_moveTo 5 = .ok (.iload_n 1, 1) := by decide +kernel
theorem dX0_moveTo_6 : decode cX0_moveTo 6 = .ok (.iaload, 1) := by decide +kernel
theorem dX0_moveTo_7 : decode cX0_moveTo 7 = .ok (.if_icmp .ne 4, 3) := by decide +kernel
theorem dX0_moveTo_10 : decode cX0_moveTo 10 = .ok (.return_, 1) := by decide +kernel
theorem dX0_moveTo_11 : decode cX0_moveTo 11 = .ok (.aload_n 0, 1) := by decide +kernel
theorem dX0_moveTo_12 : decode cX0_moveTo 12 = .ok (.getfield 9, 3) := by decide +kernel
theorem dX0_moveTo_15 : decode cX0_moveTo 15 = .ok (.aload_n 0, 1) := by decide +kernel
theorem dX0_moveTo_16 : decode cX0_moveTo 16 = .ok (.getfield 13, 3) := by decide +kernel
theorem dX0_moveTo_19 : decode cX0_moveTo 19 = .ok (.iload_n 1, 1) := by decide +kernel
theorem dX0_moveTo_20 : decode cX0_moveTo 20 = .ok (.iaload, 1) := by decide +kernel
theorem dX0_moveTo_21 : decode cX0_moveTo 21 = .ok (.aload_n 0, 1) := by decide +kernel
theorem dX0_moveTo_22 : decode cX0_moveTo 22 = .ok (.getfield 9, 3) := by decide +kernel
theorem dX0_moveTo_25 : decode cX0_moveTo 25 = .ok (.iload_n 2, 1) := by decide +kernel
theorem dX0_moveTo_26 : decode cX0_moveTo 26 = .ok (.aload_n 0, 1) := by decide +kernel
theorem dX0_moveTo_27 : decode cX0_moveTo 27 = .ok (.getfield 22, 3) := by decide +kernel
theorem dX0_moveTo_30 : decode cX0_moveTo 30 = .ok (.iload_n 1, 1) := by decide +kernel
theorem dX0_moveTo_31 : decode cX0_moveTo 31 = .ok (.iaload, 1) := by decide +kernel
theorem dX0_moveTo_32 : decode cX0_moveTo 32 = .ok (.invokestatic 171, 3) := by decide +kernel
theorem dX0_moveTo_35 : decode cX0_moveTo 35 = .ok (.aload_n 0, 1) := by decide +kernel
theorem dX0_moveTo_36 : decode cX0_moveTo 36 = .ok (.getfield 13, 3) := by decide +kernel
theorem dX0_moveTo_39 : decode cX0_moveTo 39 = .ok (.iload_n 1, 1) := by decide +kernel
theorem dX0_moveTo_40 : decode cX0_moveTo 40 = .ok (.iload_n 2, 1) := by decide +kernel
theorem dX0_moveTo_41 : decode cX0_moveTo 41 = .ok (.iastore, 1) := by decide +kernel
theorem dX0_moveTo_42 : decode cX0_moveTo 42 = .ok (.aload_n 0, 1) := by decide +kernel
theorem dX0_moveTo_43 : decode cX0_moveTo 43 = .ok (.dup, 1) := by decide +kernel
theorem dX0_moveTo_44 : decode cX0_moveTo 44 = .ok (.getfield 42, 3) := by decide +kernel
theorem dX0_moveTo_47 : decode cX0_moveTo 47 = .ok (.aload_n 0, 1) := by decide +kernel
theorem dX0_moveTo_48 : decode cX0_moveTo 48 = .ok (.getfield 22, 3) := by decide +kernel
theorem dX0_moveTo_51 : decode cX0_moveTo 51 = .ok (.iload_n 1, 1) := by decide +kernel
theorem dX0_moveTo_52 : decode cX0_moveTo 52 = .ok (.iaload, 1) := by decide +kernel
theorem dX0_moveTo_53 : decode cX0_moveTo 53 = .ok (.iadd, 1) := by decide +kernel
theorem dX0_moveTo_54 : decode cX0_moveTo 54 = .ok (.putfield 42, 3) := by decide +kernel
theorem dX0_moveTo_57 : decode cX0_moveTo 57 = .ok (.return_, 1) := by decide +kernel
set_option maxRecDepth 20000 in
theorem ggX0_giveUp_X0_takeBlock : GoodIn wsX0_giveUp wsX0_takeBlock := goodIn_ca (goodIn_r _ [6, 7, 8, 9, 10, 11, 5, 12, 13, 14, 15, 16, 17, 18, 19, 20, 21, 22, 23, 24] (by decide +kernel) (by decide +kernel)) (goodIn_sub (fun _ h => List.mem_cons_of_mem _ (List.mem_append_right _ h)) (by decide +kernel))
set_option maxRecDepth 20000 in
theorem gX0_giveUp_X0_takeBlock : GoodIn wsX0_giveUp (wsV RX0 63 RX0 yX0_takeBlock wsX0_takeBlock) := goodIn_app (goodIn_of _ (by decide +kernel)) ggX0_giveUp_X0_takeBlock
theorem dX0_giveUp_0 : decode cX0_giveUp 0 = .ok (.aload_n 0, 1) := by decide +kernel
theorem dX0_giveUp_1 : decode cX0_giveUp 1 = .ok (.iload_n 1, 1) := by decide +kernel
theorem dX0_giveUp_2 : decode cX0_giveUp 2 = .ok (.bipush (-2), 2) := by decide +kernel
theorem dX0_giveUp_4 : decode cX0_giveUp 4 = .ok (.invokevirtual 63, 3) := by decide +kernel
theorem dX0_giveUp_7 : decode cX0_giveUp 7 = .ok (.aload_n 0, 1) := by decide +kernel
theorem dX0_giveUp_8 : decode cX0_giveUp 8 = .ok (.dup, 1) := by decide +kernel
theorem dX0_giveUp_9 : decode cX0_giveUp 9 = .ok (.getfield 45, 3) := by decide +kernel
theorem dX0_giveUp_12 : decode cX0_giveUp 12 = .ok (.iconst 1, 1) := by decide +kernel
theorem dX0_giveUp_13 : decode cX0_giveUp 13 = .ok (.iadd, 1) := by decide +kernel
theorem dX0_giveUp_14 : decode cX0_giveUp 14 = .ok (.putfield 45, 3) := by decide +kernel
theorem dX0_giveUp_17 : decode cX0_giveUp 17 = .ok (.return_, 1) := by decide +kernel
set_option maxRecDepth 20000 in
theorem ggX0_giveUpFirst_X0_isMovable : GoodIn wsX0_giveUpFirst wsX0_isMovable := goodIn_ca (goodIn_r _ [8, 9, 10, 26, 27, 28, 29, 30, 31, 32, 33, 34, 35] (by decide +kernel) (by decide +kernel)) (goodIn_sub (fun _ h => List.mem_cons_of_mem _ (List.mem_append_right _ h)) (by decide +kernel))
set_option maxRecDepth 20000 in
theorem gX0_giveUpFirst_X0_isMovable : GoodIn wsX0_giveUpFirst (wsV RX0 74 RX0 yX0_isMovable wsX0_isMovable) := goodIn_app (goodIn_of _ (by decide +kernel)) ggX0_giveUpFirst_X0_isMovable
set_option maxRecDepth 20000 in
theorem ggX0_giveUpFirst_X0_giveUp : GoodIn wsX0_giveUpFirst wsX0_giveUp := goodIn_ca (goodIn_r _ [14, 15, 16, 17, 18, 7, 19, 20, 21, 22, 23, 24, 25, 1, 2, 26, 27, 28, 29, 30, 31, 32, 33, 34, 35] (by decide +kernel) (by decide +kernel)) (goodIn_sub (fun _ h => List.mem_cons_of_mem _ (List.mem_append_right _ h)) (by decide +kernel))
set_option maxRecDepth 20000 in
theorem gX0_giveUpFirst_X0_giveUp : GoodIn wsX0_giveUpFirst (wsV RX0 85 RX0 yX0_giveUp wsX0_giveUp) := goodIn_app (goodIn_of _ (by decide +kernel)) ggX0_giveUpFirst_X0_giveUp
theorem dX0_giveUpFirst_0 : decode cX0_giveUpFirst 0 = .ok (.iconst 0, 1) := by decide +kernel
theorem dX0_giveUpFirst_1 : decode cX0_giveUpFirst 1 = .ok (.istore_n 2, 1) := by decide +kernel
theorem dX0_giveUpFirst_2 : decode cX0_giveUpFirst 2 = .ok (.iload_n 2, 1) := by decide +kernel
theorem dX0_giveUpFirst_3 : decode cX0_giveUpFirst 3 = .ok (.aload_n 0, 1) := by decide +kernel
theorem dX0_giveUpFirst_4 : decode cX0_giveUpFirst 4 = .ok (.getfield 38, 3) := by decide +kernel
theorem dX0_giveUpFirst_7 : decode cX0_giveUpFirst 7 = .ok (.if_icmp .ge 45, 3) := by decide +kernel
theorem dX0_giveUpFirst_10 : decode cX0_giveUpFirst 10 = .ok (.aload_n 0, 1) := by decide +kernel
theorem dX0_giveUpFirst_11 : decode cX0_giveUpFirst 11 = .ok (.getfield 35, 3) := by decide +kernel
theorem dX0_giveUpFirst_14 : decode cX0_giveUpFirst 14 = .ok (.iload_n 2, 1) := by decide +kernel
theorem dX0_giveUpFirst_15 : decode cX0_giveUpFirst 15 = .ok (.iaload, 1) := by decide +kernel
theorem dX0_giveUpFirst_16 : decode cX0_giveUpFirst 16 = .ok (.istore_n 3, 1) := by decide +kernel
theorem dX0_giveUpFirst_17 : decode cX0_giveUpFirst 17 = .ok (.iload_n 3, 1) := by decide +kernel
theorem dX0_giveUpFirst_18 : decode cX0_giveUpFirst 18 = .ok (.iload_n 1, 1) := by decide +kernel
theorem dX0_giveUpFirst_19 : decode cX0_giveUpFirst 19 = .ok (.if_icmp .eq 27, 3) := by decide +kernel
theorem dX0_giveUpFirst_22 : decode cX0_giveUpFirst 22 = .ok (.aload_n 0, 1) := by decide +kernel
theorem dX0_giveUpFirst_23 : decode cX0_giveUpFirst 23 = .ok (.getfield 32, 3) := by decide +kernel
theorem dX0_giveUpFirst_26 : decode cX0_giveUpFirst 26 = .ok (.iload_n 3, 1) := by decide +kernel
theorem dX0_giveUpFirst_27 : decode cX0_giveUpFirst 27 = .ok (.baload, 1) := by decide +kernel
theorem dX0_giveUpFirst_28 : decode cX0_giveUpFirst 28 = .ok (.ifCond .eq 18, 3) := by decide +kernel
theorem dX0_giveUpFirst_31 : decode cX0_giveUpFirst 31 = .ok (.aload_n 0, 1) := by decide +kernel
theorem dX0_giveUpFirst_32 : decode cX0_giveUpFirst 32 = .ok (.iload_n 3, 1) := by decide +kernel
theorem dX0_giveUpFirst_33 : decode cX0_giveUpFirst 33 = .ok (.invokevirtual 74, 3) := by decide +kernel
theorem dX0_giveUpFirst_36 : decode cX0_giveUpFirst 36 = .ok (.ifCond .eq 10, 3) := by decide +kernel
theorem dX0_giveUpFirst_39 : decode cX0_giveUpFirst 39 = .ok (.aload_n 0, 1) := by decide +kernel
theorem dX0_giveUpFirst_40 : decode cX0_giveUpFirst 40 = .ok (.iload_n 3, 1) := by decide +kernel
theorem dX0_giveUpFirst_41 : decode cX0_giveUpFirst 41 = .ok (.invokevirtual 85, 3) := by decide +kernel
theorem dX0_giveUpFirst_44 : decode cX0_giveUpFirst 44 = .ok (.iconst 1, 1) := by decide +kernel
theorem dX0_giveUpFirst_45 : decode cX0_giveUpFirst 45 = .ok (.ireturn, 1) := by decide +kernel
theorem dX0_giveUpFirst_46 : decode cX0_giveUpFirst 46 = .ok (.iinc 2 1, 3) := by decide +kernel
theorem dX0_giveUpFirst_49 : decode cX0_giveUpFirst 49 = .ok (.goto (-47), 3) := by decide +kernel
theorem dX0_giveUpFirst_52 : decode cX0_giveUpFirst 52 = .ok (.iconst 0, 1) := by decide +kernel
theorem dX0_giveUpFirst_53 : decode cX0_giveUpFirst 53 = .ok (.ireturn, 1) := by decide +kernel
set_option maxRecDepth 20000 in
theorem ggX0_slideTogether_X0_isMovable : GoodIn wsX0_slideTogether wsX0_isMovable := goodIn_ca (goodIn_r _ [7, 8, 9, 26, 27, 28, 29, 30, 31, 32, 33, 34, 35] (by decide +kernel) (by decide +kernel)) (goodIn_sub (fun _ h => List.mem_cons_of_mem _ (List.mem_append_right _ h)) (by decide +kernel))
set_option maxRecDepth 20000 in
theorem gX0_slideTogether_X0_isMovable : GoodIn wsX0_slideTogether (wsV RX0 74 RX0 yX0_isMovable wsX0_isMovable) := goodIn_app (goodIn_of _ (by decide +kernel)) ggX0_slideTogether_X0_isMovable
set_option maxRecDepth 20000 in
theorem ggX0_slideTogether_X0_moveTo : GoodIn wsX0_slideTogether wsX0_moveTo := goodIn_ca (goodIn_r _ [13, 14, 15, 16, 17, 18, 19, 20, 21, 26, 27, 28, 29, 30, 31, 32, 33, 34, 35] (by decide +kernel) (by decide +kernel)) (goodIn_sub (fun _ h => List.mem_cons_of_mem _ (List.mem_append_right _ h)) (by decide +kernel))
set_option maxRecDepth 20000 in
theorem gX0_slideTogether_X0_moveTo : GoodIn wsX0_slideTogether (wsV RX0 95 RX0 yX0_moveTo wsX0_moveTo) := goodIn_app (goodIn_of _ (by decide +kernel)) ggX0_slideTogether_X0_moveTo
set_option maxRecDepth 20000 in
theorem ggX0_slideTogether_X0_endOf : GoodIn wsX0_slideTogether wsX0_endOf := goodIn_ca (goodIn_r _ [25, 14, 16, 26, 27, 28, 29, 30, 31, 32, 33, 34, 35] (by decide +kernel) (by decide +kernel)) (goodIn_sub (fun _ h => List.mem_cons_of_mem _ (List.mem_append_right _ h)) (by decide +kernel))
set_option maxRecDepth 20000 in
theorem gX0_slideTogether_X0_endOf : GoodIn wsX0_slideTogether (wsV RX0 120 RX0 yX0_endOf wsX0_endOf) := goodIn_app (goodIn_of _ (by decide +kernel)) ggX0_slideTogether_X0_endOf
theorem dX0_slideTogether_0 : decode cX0_slideTogether 0 = .ok (.iconst 0, 1) := by decide +kernel
theorem dX0_slideTogether_1 : decode cX0_slideTogether 1 = .ok (.istore_n 1, 1) := by decide +kernel
theorem dX0_slideTogether_2 : decode cX0_slideTogether 2 = .ok (.iconst 0, 1) := by decide +kernel
theorem dX0_slideTogether_3 : decode cX0_slideTogether 3 = .ok (.istore_n 2, 1) := by decide +kernel
theorem dX0_slideTogether_4 : decode cX0_slideTogether 4 = .ok (.iload_n 2, 1) := by decide +kernel
theorem dX0_slideTogether_5 : decode cX0_slideTogether 5 = .ok (.aload_n 0, 1) := by decide +kernel
theorem dX0_slideTogether_6 : decode cX0_slideTogether 6 = .ok (.getfield 38, 3) := by decide +kernel
theorem dX0_slideTogether_9 : decode cX0_slideTogether 9 = .ok (.if_icmp .ge 36, 3) := by decide +kernel
theorem dX0_slideTogether_12 : decode cX0_slideTogether 12 = .ok (.aload_n 0, 1) := by decide +kernel
theorem dX0_slideTogether_13 : decode cX0_slideTogether 13 = .ok (.getfield 35, 3) := by decide +kernel
theorem dX0_slideTogether_16 : decode cX0_slideTogether 16 = .ok (.iload_n 2, 1) := by decide +kernel
theorem dX0_slideTogether_17 : decode cX0_slideTogether 17 = .ok (.iaload, 1) := by decide +kernel
theorem dX0_slideTogether_18 : decode cX0_slideTogether 18 = .ok (.istore_n 3, 1) := by decide +kernel
theorem dX0_slideTogether_19 : decode cX0_slideTogether 19 = .ok (.aload_n 0, 1) := by decide +kernel
theorem dX0_slideTogether_20 : decode cX0_slideTogether 20 = .ok (.iload_n 3, 1) := by decide +kernel
theorem dX0_slideTogether_21 : decode cX0_slideTogether 21 = .ok (.invokevirtual 74, 3) := by decide +kernel
theorem dX0_slideTogether_24 : decode cX0_slideTogether 24 = .ok (.ifCond .eq 9, 3) := by decide +kernel
theorem dX0_slideTogether_27 : decode cX0_slideTogether 27 = .ok (.aload_n 0, 1) := by decide +kernel
theorem dX0_slideTogether_28 : decode cX0_slideTogether 28 = .ok (.iload_n 3, 1) := by decide +kernel
theorem dX0_slideTogether_29 : decode cX0_slideTogether 29 = .ok (.iload_n 1, 1) := by decide +kernel
theorem dX0_slideTogether_30 : decode cX0_slideTogether 30 = .ok (.invokevirtual 95, 3) := by decide +kernel
theorem dX0_slideTogether_33 : decode cX0_slideTogether 33 = .ok (.aload_n 0, 1) := by decide +kernel
theorem dX0_slideTogether_34 : decode cX0_slideTogether 34 = .ok (.iload_n 3, 1) := by decide +kernel
theorem dX0_slideTogether_35 : decode cX0_slideTogether 35 = .ok (.invokevirtual 120, 3) := by decide +kernel
theorem dX0_slideTogether_38 : decode cX0_slideTogether 38 = .ok (.istore_n 1, 1) := by decide +kernel
theorem dX0_slideTogether_39 : decode cX0_slideTogether 39 = .ok (.iinc 2 1, 3) := by decide +kernel
theorem dX0_slideTogether_42 : decode cX0_slideTogether 42 = .ok (.goto (-38), 3) := by decide +kernel
theorem dX0_slideTogether_45 : decode cX0_slideTogether 45 = .ok (.return_, 1) := by decide +kernel
set_option maxRecDepth 20000 in
theorem ggX0_findRoom_X0_firstGapOf : GoodIn wsX0_findRoom wsX0_firstGapOf := goodIn_ca (goodIn_r _ [5, 6, 7, 8, 9, 4, 10, 11, 12, 13, 14, 15, 16, 17, 18, 19, 20, 21, 60, 61, 62, 63, 64, 65, 66, 67, 68, 69] (by decide +kernel) (by decide +kernel)) (goodIn_sub (fun _ h => List.mem_cons_of_mem _ (List.mem_append_right _ h)) (by decide +kernel))
set_option maxRecDepth 20000 in
theorem gX0_findRoom_X0_firstGapOf : GoodIn wsX0_findRoom (wsV RX0 177 RX0 yX0_firstGapOf wsX0_firstGapOf) := goodIn_app (goodIn_of _ (by decide +kernel)) ggX0_findRoom_X0_firstGapOf
set_option maxRecDepth 20000 in
theorem ggX0_findRoom_X0_slideTogether : GoodIn wsX0_findRoom wsX0_slideTogether := goodIn_ca (goodIn_r _ [25, 6, 12, 26, 27, 28, 4, 29, 30, 31, 32, 33, 34, 35, 11, 36, 21, 37, 38, 39, 40, 41, 17, 18, 19, 20, 60, 61, 62, 63, 64, 65, 66, 67, 68, 69] (by decide +kernel) (by decide +kernel)) (goodIn_sub (fun _ h => List.mem_cons_of_mem _ (List.mem_append_right _ h)) (by decide +kernel))
set_option maxRecDepth 20000 in
theorem gX0_findRoom_X0_slideTogether : GoodIn wsX0_findRoom (wsV RX0 98 RX0 yX0_slideTogether wsX0_slideTogether) := goodIn_app (goodIn_of _ (by decide +kernel)) ggX0_findRoom_X0_slideTogether
set_option maxRecDepth 20000 in
theorem ggX0_findRoom_X0_giveUpFirst : GoodIn wsX0_findRoom wsX0_giveUpFirst := goodIn_ca (goodIn_r _ [45, 6, 12, 46, 26, 27, 28, 4, 29, 30, 31, 47, 48, 49, 50, 51, 52, 53, 54, 55, 11, 21, 56, 57, 58, 59, 60, 61, 62, 63, 64, 65, 66, 67, 68, 69] (by decide +kernel) (by decide +kernel)) (goodIn_sub (fun _ h => List.mem_cons_of_mem _ (List.mem_append_right _ h)) (by decide +kernel))
set_option maxRecDepth 20000 in
theorem gX0_findRoom_X0_giveUpFirst : GoodIn wsX0_findRoom (wsV RX0 109 RX0 yX0_giveUpFirst wsX0_giveUpFirst) := goodIn_app (goodIn_of _ (by decide +kernel)) ggX0_findRoom_X0_giveUpFirst
set_option maxRecDepth 20000 in
theorem ggX0_findRoom_X0_gapBegin : GoodIn wsX0_findRoom wsX0_gapBegin := goodIn_ca (goodIn_r _ [16, 12, 17, 18, 19, 4, 20, 11, 21, 60, 61, 62, 63, 64, 65, 66, 67, 68, 69] (by decide +kernel) (by decide +kernel)) (goodIn_sub (fun _ h => List.mem_cons_of_mem _ (List.mem_append_right _ h)) (by decide +kernel))
set_option maxRecDepth 20000 in
theorem gX0_findRoom_X0_gapBegin : GoodIn wsX0_findRoom (wsV RX0 147 RX0 yX0_gapBegin wsX0_gapBegin) := goodIn_app (goodIn_of _ (by decide +kernel)) ggX0_findRoom_X0_gapBegin
theorem dX0_findRoom_0 : decode cX0_findRoom 0 = .ok (.aload_n 0, 1) := by decide +kernel
theorem dX0_findRoom_1 : decode cX0_findRoom 1 = .ok (.iload_n 1, 1) := by decide +kernel
theorem dX0_findRoom_2 : decode cX0_findRoom 2 = .ok (.invokevirtual 177, 3) := by decide +kernel
theorem dX0_findRoom_5 : decode cX0_findRoom 5 = .ok (.istore_n 3, 1) := by decide +kernel
theorem dX0_findRoom_6 : decode cX0_findRoom 6 = .ok (.iload_n 3, 1) := by decide +kernel
theorem dX0_findRoom_7 : decode cX0_findRoom 7 = .ok (.iconst (-1), 1) := by decide +kernel
theorem dX0_findRoom_8 : decode cX0_findRoom 8 = .ok (.if_icmp .ne 13, 3) := by decide +kernel
theorem dX0_findRoom_11 : decode cX0_findRoom 11 = .ok (.aload_n 0, 1) := by decide +kernel
theorem dX0_findRoom_12 : decode cX0_findRoom 12 = .ok (.invokevirtual 98, 3) := by decide +kernel
theorem dX0_findRoom_15 : decode cX0_findRoom 15 = .ok (.aload_n 0, 1) := by decide +kernel
theorem dX0_findRoom_16 : decode cX0_findRoom 16 = .ok (.iload_n 1, 1) := by decide +kernel
theorem dX0_findRoom_17 : decode cX0_findRoom 17 = .ok (.invokevirtual 177, 3) := by decide +kernel
theorem dX0_findRoom_20 : decode cX0_findRoom 20 = .ok (.istore_n 3, 1) := by decide +kernel
theorem dX0_findRoom_21 : decode cX0_findRoom 21 = .ok (.iconst 0, 1) := by decide +kernel
theorem dX0_findRoom_22 : decode cX0_findRoom 22 = .ok (.istore 4, 2) := by decide +kernel
theorem dX0_findRoom_24 : decode cX0_findRoom 24 = .ok (.iload 4, 2) := by decide +kernel
theorem dX0_findRoom_26 : decode cX0_findRoom 26 = .ok (.bipush 48, 2) := by decide +kernel
theorem dX0_findRoom_28 : decode cX0_findRoom 28 = .ok (.if_icmp .ge 32, 3) := by decide +kernel
theorem dX0_findRoom_31 : decode cX0_findRoom 31 = .ok (.iload_n 3, 1) := by decide +kernel
theorem dX0_findRoom_32 : decode cX0_findRoom 32 = .ok (.iconst (-1), 1) := by decide +kernel
theorem dX0_findRoom_33 : decode cX0_findRoom 33 = .ok (.if_icmp .ne 27, 3) := by decide +kernel
theorem dX0_findRoom_36 : decode cX0_findRoom 36 = .ok (.aload_n 0, 1) := by decide +kernel
theorem dX0_findRoom_37 : decode cX0_findRoom 37 = .ok (.iload_n 2, 1) := by decide +kernel
theorem dX0_findRoom_38 : decode cX0_findRoom 38 = .ok (.invokevirtual 109, 3) := by decide +kernel
theorem dX0_findRoom_41 : decode cX0_findRoom 41 = .ok (.ifCond .eq 19, 3) := by decide +kernel
theorem dX0_findRoom_44 : decode cX0_findRoom 44 = .ok (.aload_n 0, 1) := by decide +kernel
theorem dX0_findRoom_45 : decode cX0_findRoom 45 = .ok (.invokevirtual 98, 3) := by decide +kernel
theorem dX0_findRoom_48 : decode cX0_findRoom 48 = .ok (.aload_n 0, 1) := by decide +kernel
theorem dX0_findRoom_49 : decode cX0_findRoom 49 = .ok (.iload_n 1, 1) := by decide +kernel
theorem dX0_findRoom_50 : decode cX0_findRoom 50 = .ok (.invokevirtual 177, 3) := by decide +kernel
theorem dX0_findRoom_53 : decode cX0_findRoom 53 = .ok (.istore_n 3, 1) := by decide +kernel
theorem dX0_findRoom_54 : decode cX0_findRoom 54 = .ok (.iinc 4 1, 3) := by decide +kernel
theorem dX0_findRoom_57 : decode cX0_findRoom 57 = .ok (.goto (-33), 3) := by decide +kernel
theorem dX0_findRoom_60 : decode cX0_findRoom 60 = .ok (.iload_n 3, 1) := by decide +kernel
theorem dX0_findRoom_61 : decode cX0_findRoom 61 = .ok (.iconst (-1), 1) := by decide +kernel
theorem dX0_findRoom_62 : decode cX0_findRoom 62 = .ok (.if_icmp .ne 7, 3) := by decide +kernel
theorem dX0_findRoom_65 : decode cX0_findRoom 65 = .ok (.iconst (-1), 1) := by decide +kernel
theorem dX0_findRoom_66 : decode cX0_findRoom 66 = .ok (.goto 8, 3) := by decide +kernel
theorem dX0_findRoom_69 : decode cX0_findRoom 69 = .ok (.aload_n 0, 1) := by decide +kernel
theorem dX0_findRoom_70 : decode cX0_findRoom 70 = .ok (.iload_n 3, 1) := by decide +kernel
theorem dX0_findRoom_71 : decode cX0_findRoom 71 = .ok (.invokevirtual 147, 3) := by decide +kernel
theorem dX0_findRoom_74 : decode cX0_findRoom 74 = .ok (.ireturn, 1) := by decide +kernel
end
section
theorem dX1_init_0 : decode cX1_init 0 = .ok (.aload_n 0, 1) := by decide +kernel
theorem dX1_init_1 : decode cX1_init 1 = .ok (.invokespecial 1, 3) := by decide +kernel
theorem dX1_init_4 : decode cX1_init 4 = .ok (.aload_n 0, 1) := by decide +kernel
theorem dX1_init_5 : decode cX1_init 5 = .ok (.bipush 48, 2) := by decide +kernel
theorem dX1_init_7 : decode cX1_init 7 = .ok (.newarray .boolean, 2) := by decide +kernel
theorem dX1_init_9 : decode cX1_init 9 = .ok (.putfield 7, 3) := by decide +kernel
theorem dX1_init_12 : decode cX1_init 12 = .ok (.aload_n 0, 1) := by decide +kernel
theorem dX1_init_13 : decode cX1_init 13 = .ok (.bipush 48, 2) := by decide +kernel
theorem dX1_init_15 : decode cX1_init 15 = .ok (.newarray .int, 2) := by decide +kernel
theorem dX1_init_17 : decode cX1_init 17 = .ok (.putfield 13, 3) := by decide +kernel
theorem dX1_init_20 : decode cX1_init 20 = .ok (.aload_n 0, 1) := by decide +kernel
theorem dX1_init_21 : decode cX1_init 21 = .ok (.bipush 48, 2) := by decide +kernel
theorem dX1_init_23 : decode cX1_init 23 = .ok (.newarray .int, 2) := by decide +kernel
theorem dX1_init_25 : decode cX1_init 25 = .ok (.putfield 17, 3) := by decide +kernel
theorem dX1_init_28 : decode cX1_init 28 = .ok (.aload_n 0, 1) := by decide +kernel
theorem dX1_init_29 : decode cX1_init 29 = .ok (.bipush 48, 2) := by decide +kernel
theorem dX1_init_31 : decode cX1_init 31 = .ok (.newarray .boolean, 2) := by decide +kernel
theorem dX1_init_33 : decode cX1_init 33 = .ok (.putfield 20, 3) := by decide +kernel
theorem dX1_init_36 : decode cX1_init 36 = .ok (.aload_n 0, 1) := by decide +kernel
theorem dX1_init_37 : decode cX1_init 37 = .ok (.bipush 48, 2) := by decide +kernel
theorem dX1_init_39 : decode cX1_init 39 = .ok (.newarray .boolean, 2) := by decide +kernel
theorem dX1_init_41 : decode cX1_init 41 = .ok (.putfield 23, 3) := by decide +kernel
theorem dX1_init_44 : decode cX1_init 44 = .ok (.aload_n 0, 1) := by decide +kernel
theorem dX1_init_45 : decode cX1_init 45 = .ok (.bipush 48, 2) := by decide +kernel
theorem dX1_init_47 : decode cX1_init 47 = .ok (.newarray .boolean, 2) := by decide +kernel
theorem dX1_init_49 : decode cX1_init 49 = .ok (.putfield 26, 3) := by decide +kernel
theorem dX1_init_52 : decode cX1_init 52 = .ok (.aload_n 0, 1) := by decide +kernel
theorem dX1_init_53 : decode cX1_init 53 = .ok (.ldc 29, 2) := by decide +kernel
theorem dX1_init_55 : decode cX1_init 55 = .ok (.newarray .int, 2) := by decide +kernel
theorem dX1_init_57 : decode cX1_init 57 = .ok (.putfield 30, 3) := by decide +kernel
theorem dX1_init_60 : decode cX1_init 60 = .ok (.return_, 1) := by decide +kernel
theorem dX1_thrown_0 : decode cX1_thrown 0 = .ok (.aload_n 0, 1) := by decide +kernel
theorem dX1_thrown_1 : decode cX1_thrown 1 = .ok (.getfield 33, 3) := by decide +kernel
theorem dX1_thrown_4 : decode cX1_thrown 4 = .ok (.ireturn, 1) := by decide +kernel
theorem dX1_has_0 : decode cX1_has 0 = .ok (.aload_n 0, 1) := by decide +kernel
theorem dX1_has_1 : decode cX1_has 1 = .ok (.getfield 7, 3) := by decide +kernel
theorem dX1_has_4 : decode cX1_has 4 = .ok (.iload_n 1, 1) := by decide +kernel
theorem dX1_has_5 : decode cX1_has 5 = .ok (.baload, 1) := by decide +kernel
theorem dX1_has_6 : decode cX1_has 6 = .ok (.ifCond .eq 16, 3) := by decide +kernel
theorem dX1_has_9 : decode cX1_has 9 = .ok (.aload_n 0, 1) := by decide +kernel
theorem dX1_has_10 : decode cX1_has 10 = .ok (.getfield 17, 3) := by decide +kernel
theorem dX1_has_13 : decode cX1_has 13 = .ok (.iload_n 1, 1) := by decide +kernel
theorem dX1_has_14 : decode cX1_has 14 = .ok (.iaload, 1) := by decide +kernel
theorem dX1_has_15 : decode cX1_has 15 = .ok (.ifCond .le 7, 3) := by decide +kernel
theorem dX1_has_18 : decode cX1_has 18 = .ok (.iconst 1, 1) := by decide +kernel
theorem dX1_has_19 : decode cX1_has 19 = .ok (.goto 4, 3) := by decide +kernel
theorem dX1_has_22 : decode cX1_has 22 = .ok (.iconst 0, 1) := by decide +kernel
theorem dX1_has_23 : decode cX1_has 23 = .ok (.ireturn, 1) := by decide +kernel
set_option maxRecDepth 20000 in
theorem ggX1_isMovable_X1_has : GoodIn wsX1_isMovable wsX1_has := goodIn_ca (goodIn_r _ [7, 8, 9, 10, 11, 12, 13, 14, 15, 16, 17, 18, 19] (by decide +kernel) (by decide +kernel)) (goodIn_sub (fun _ h => List.mem_cons_of_mem _ (List.mem_append_right _ h)) (by decide +kernel))
set_option maxRecDepth 20000 in
theorem gX1_isMovable_X1_has : GoodIn wsX1_isMovable (wsV RX1 37 RX1 yX1_has wsX1_has) := goodIn_app (goodIn_of _ (by decide +kernel)) ggX1_isMovable_X1_has
theorem dX1_isMovable_0 : decode cX1_isMovable 0 = .ok (.aload_n 0, 1) := by decide +kernel
theorem dX1_isMovable_1 : decode cX1_isMovable 1 = .ok (.iload_n 1, 1) := by decide +kernel
theorem dX1_isMovable_2 : decode cX1_isMovable 2 = .ok (.invokevirtual 37, 3) := by decide +kernel
theorem dX1_isMovable_5 : decode cX1_isMovable 5 = .ok (.ifCond .eq 25, 3) := by decide +kernel
theorem dX1_isMovable_8 : decode cX1_isMovable 8 = .ok (.aload_n 0, 1) := by decide +kernel
theorem dX1_isMovable_9 : decode cX1_isMovable 9 = .ok (.getfield 20, 3) := by decide +kernel
theorem dX1_isMovable_12 : decode cX1_isMovable 12 = .ok (.iload_n 1, 1) := by decide +kernel
theorem dX1_isMovable_13 : decode cX1_isMovable 13 = .ok (.baload, 1) := by decide +kernel
theorem dX1_isMovable_14 : decode cX1_isMovable 14 = .ok (.ifCond .ne 16, 3) := by decide +kernel
theorem dX1_isMovable_17 : decode cX1_isMovable 17 = .ok (.aload_n 0, 1) := by decide +kernel
theorem dX1_isMovable_18 : decode cX1_isMovable 18 = .ok (.getfield 23, 3) := by decide +kernel
theorem dX1_isMovable_21 : decode cX1_isMovable 21 = .ok (.iload_n 1, 1) := by decide +kernel
theorem dX1_isMovable_22 : decode cX1_isMovable 22 = .ok (.baload, 1) := by decide +kernel
theorem dX1_isMovable_23 : decode cX1_isMovable 23 = .ok (.ifCond .ne 7, 3) := by decide +kernel
theorem dX1_isMovable_26 : decode cX1_isMovable 26 = .ok (.iconst 1, 1) := by decide +kernel
theorem dX1_isMovable_27 : decode cX1_isMovable 27 = .ok (.goto 4, 3) := by decide +kernel
theorem dX1_isMovable_30 : decode cX1_isMovable 30 = .ok (.iconst 0, 1) := by decide +kernel
theorem dX1_isMovable_31 : decode cX1_isMovable 31 = .ok (.ireturn, 1) := by decide +kernel
set_option maxRecDepth 20000 in
theorem ggX1_firstFrom_X1_has : GoodIn wsX1_firstFrom wsX1_has := goodIn_ca (goodIn_r _ [6, 7, 8, 9, 10, 11, 12, 13, 14, 15, 16, 17, 18] (by decide +kernel) (by decide +kernel)) (goodIn_sub (fun _ h => List.mem_cons_of_mem _ (List.mem_append_right _ h)) (by decide +kernel))
set_option maxRecDepth 20000 in
theorem gX1_firstFrom_X1_has : GoodIn wsX1_firstFrom (wsV RX1 37 RX1 yX1_has wsX1_has) := goodIn_app (goodIn_of _ (by decide +kernel)) ggX1_firstFrom_X1_has
theorem dX1_firstFrom_0 : decode cX1_firstFrom 0 = .ok (.iconst (-1), 1) := by decide +kernel
theorem dX1_firstFrom_1 : decode cX1_firstFrom 1 = .ok (.istore_n 2, 1) := by decide +kernel
theorem dX1_firstFrom_2 : decode cX1_firstFrom 2 = .ok (.iconst 0, 1) := by decide +kernel
theorem dX1_firstFrom_3 : decode cX1_firstFrom 3 = .ok (.istore_n 3, 1) := by decide +kernel
theorem dX1_firstFrom_4 : decode cX1_firstFrom 4 = .ok (.iload_n 3, 1) := by decide +kernel
theorem dX1_firstFrom_5 : decode cX1_firstFrom 5 = .ok (.bipush 48, 2) := by decide +kernel
theorem dX1_firstFrom_7 : decode cX1_firstFrom 7 = .ok (.if_icmp .ge 48, 3) := by decide +kernel
theorem dX1_firstFrom_10 : decode cX1_firstFrom 10 = .ok (.aload_n 0, 1) := by decide +kernel
theorem dX1_firstFrom_11 : decode cX1_firstFrom 11 = .ok (.iload_n 3, 1) := by decide +kernel
theorem dX1_firstFrom_12 : decode cX1_firstFrom 12 = .ok (.invokevirtual 37, 3) := by decide +kernel
theorem dX1_firstFrom_15 : decode cX1_firstFrom 15 = .ok (.ifCond .eq 34, 3) := by decide +kernel
theorem dX1_firstFrom_18 : decode cX1_firstFrom 18 = .ok (.aload_n 0, 1) := by decide +kernel
theorem dX1_firstFrom_19 : decode cX1_firstFrom 19 = .ok (.getfield 13, 3) := by decide +kernel
theorem dX1_firstFrom_22 : decode cX1_firstFrom 22 = .ok (.iload_n 3, 1) := by decide +kernel
theorem dX1_firstFrom_23 : decode cX1_firstFrom 23 = .ok (.iaload, 1) := by decide +kernel
theorem dX1_firstFrom_24 : decode cX1_firstFrom 24 = .ok (.iload_n 1, 1) := by decide +kernel
theorem dX1_firstFrom_25 : decode cX1_firstFrom 25 = .ok (.if_icmp .lt 24, 3) := by decide +kernel
theorem dX1_firstFrom_28 : decode cX1_firstFrom 28 = .ok (.iload_n 2, 1) := by decide +kernel
theorem dX1_firstFrom_29 : decode cX1_firstFrom 29 = .ok (.ifCond .lt 18, 3) := by decide +kernel
theorem dX1_firstFrom_32 : decode cX1_firstFrom 32 = .ok (.aload_n 0, 1) := by decide +kernel
theorem dX1_firstFrom_33 : decode cX1_firstFrom 33 = .ok (.getfield 13, 3) := by decide +kernel
theorem dX1_firstFrom_36 : decode cX1_firstFrom 36 = .ok (.iload_n 3, 1) := by decide +kernel
theorem dX1_firstFrom_37 : decode cX1_firstFrom 37 = .ok (.iaload, 1) := by decide +kernel
theorem dX1_firstFrom_38 : decode cX1_firstFrom 38 = .ok (.aload_n 0, 1) := by decide +kernel
theorem dX1_firstFrom_39 : decode cX1_firstFrom 39 = .ok (.getfield 13, 3) := by decide +kernel
theorem dX1_firstFrom_42 : decode cX1_firstFrom 42 = .ok (.iload_n 2, 1) := by decide +kernel
theorem dX1_firstFrom_43 : decode cX1_firstFrom 43 = .ok (.iaload, 1) := by decide +kernel
theorem dX1_firstFrom_44 : decode cX1_firstFrom 44 = .ok (.if_icmp .ge 5, 3) := by decide +kernel
theorem dX1_firstFrom_47 : decode cX1_firstFrom 47 = .ok (.iload_n 3, 1) := by decide +kernel
theorem dX1_firstFrom_48 : decode cX1_firstFrom 48 = .ok (.istore_n 2, 1) := by decide +kernel
theorem dX1_firstFrom_49 : decode cX1_firstFrom 49 = .ok (.iinc 3 1, 3) := by decide +kernel
theorem dX1_firstFrom_52 : decode cX1_firstFrom 52 = .ok (.goto (-48), 3) := by decide +kernel
theorem dX1_firstFrom_55 : decode cX1_firstFrom 55 = .ok (.iload_n 2, 1) := by decide +kernel
theorem dX1_firstFrom_56 : decode cX1_firstFrom 56 = .ok (.ireturn, 1) := by decide +kernel
set_option maxRecDepth 20000 in
theorem ggX1_freeTo_X1_firstFrom : GoodIn wsX1_freeTo wsX1_firstFrom := goodIn_ca (goodIn_r _ [6, 1, 7, 8, 9, 5, 10, 11, 12, 13, 14, 15, 16, 17, 18, 19, 20, 21, 22] (by decide +kernel) (by decide +kernel)) (goodIn_sub (fun _ h => List.mem_cons_of_mem _ (List.mem_append_right _ h)) (by decide +kernel))
set_option maxRecDepth 20000 in
theorem gX1_freeTo_X1_firstFrom : GoodIn wsX1_freeTo (wsV RX1 41 RX1 yX1_firstFrom wsX1_firstFrom) := goodIn_app (goodIn_of _ (by decide +kernel)) ggX1_freeTo_X1_firstFrom
theorem dX1_freeTo_0 : decode cX1_freeTo 0 = .ok (.aload_n 0, 1) := by decide +kernel
theorem dX1_freeTo_1 : decode cX1_freeTo 1 = .ok (.iload_n 1, 1) := by decide +kernel
theorem dX1_freeTo_2 : decode cX1_freeTo 2 = .ok (.invokevirtual 41, 3) := by decide +kernel
theorem dX1_freeTo_5 : decode cX1_freeTo 5 = .ok (.istore_n 2, 1) := by decide +kernel
theorem dX1_freeTo_6 : decode cX1_freeTo 6 = .ok (.iload_n 2, 1) := by decide +kernel
theorem dX1_freeTo_7 : decode cX1_freeTo 7 = .ok (.ifCond .ge 9, 3) := by decide +kernel
theorem dX1_freeTo_10 : decode cX1_freeTo 10 = .ok (.sipush 1024, 3) := by decide +kernel
theorem dX1_freeTo_13 : decode cX1_freeTo 13 = .ok (.goto 9, 3) := by decide +kernel
theorem dX1_freeTo_16 : decode cX1_freeTo 16 = .ok (.aload_n 0, 1) := by decide +kernel
theorem dX1_freeTo_17 : decode cX1_freeTo 17 = .ok (.getfield 13, 3) := by decide +kernel
theorem dX1_freeTo_20 : decode cX1_freeTo 20 = .ok (.iload_n 2, 1) := by decide +kernel
theorem dX1_freeTo_21 : decode cX1_freeTo 21 = .ok (.iaload, 1) := by decide +kernel
theorem dX1_freeTo_22 : decode cX1_freeTo 22 = .ok (.ireturn, 1) := by decide +kernel
set_option maxRecDepth 20000 in
theorem ggX1_place_X1_freeTo : GoodIn wsX1_place wsX1_freeTo := goodIn_ca (goodIn_r _ [6, 7, 8, 9, 10, 5, 11, 12, 13, 14, 15, 16, 1, 17, 18, 19, 20, 21, 22, 23, 24, 25, 26] (by decide +kernel) (by decide +kernel)) (goodIn_sub (fun _ h => List.mem_cons_of_mem _ (List.mem_append_right _ h)) (by decide +kernel))
set_option maxRecDepth 20000 in
theorem gX1_place_X1_freeTo : GoodIn wsX1_place (wsV RX1 45 RX1 yX1_freeTo wsX1_freeTo) := goodIn_app (goodIn_of _ (by decide +kernel)) ggX1_place_X1_freeTo
set_option maxRecDepth 20000 in
theorem ggX1_place_X1_firstFrom : GoodIn wsX1_place wsX1_firstFrom := goodIn_ca (goodIn_r _ [11, 7, 12, 13, 14, 5, 15, 16, 1, 17, 18, 19, 20, 21, 22, 23, 24, 25, 26] (by decide +kernel) (by decide +kernel)) (goodIn_sub (fun _ h => List.mem_cons_of_mem _ (List.mem_append_right _ h)) (by decide +kernel))
set_option maxRecDepth 20000 in
theorem gX1_place_X1_firstFrom : GoodIn wsX1_place (wsV RX1 41 RX1 yX1_firstFrom wsX1_firstFrom) := goodIn_app (goodIn_of _ (by decide +kernel)) ggX1_place_X1_firstFrom
theorem dX1_place_0 : decode cX1_place 0 = .ok (.iconst 0, 1) := by decide +kernel
theorem dX1_place_1 : decode cX1_place 1 = .ok (.istore_n 2, 1) := by decide +kernel
theorem dX1_place_2 : decode cX1_place 2 = .ok (.iload_n 2, 1) := by decide +kernel
theorem dX1_place_3 : decode cX1_place 3 = .ok (.sipush 1024, 3) := by decide +kernel
theorem dX1_place_6 : decode cX1_place 6 = .ok (.if_icmp .ge 52, 3) := by decide +kernel
theorem dX1_place_9 : decode cX1_place 9 = .ok (.aload_n 0, 1) := by decide +kernel
theorem dX1_place_10 : decode cX1_place 10 = .ok (.iload_n 2, 1) := by decide +kernel
theorem dX1_place_11 : decode cX1_place 11 = .ok (.invokevirtual 45, 3) := by decide +kernel
theorem dX1_place_14 : decode cX1_place 14 = .ok (.istore_n 3, 1) := by decide +kernel
theorem dX1_place_15 : decode cX1_place 15 = .ok (.iload_n 3, 1) := by decide +kernel
theorem dX1_place_16 : decode cX1_place 16 = .ok (.iload_n 2, 1) := by decide +kernel
theorem dX1_place_17 : decode cX1_place 17 = .ok (.isub, 1) := by decide +kernel
theorem dX1_place_18 : decode cX1_place 18 = .ok (.iload_n 1, 1) := by decide +kernel
theorem dX1_place_19 : decode cX1_place 19 = .ok (.if_icmp .lt 10, 3) := by decide +kernel
theorem dX1_place_22 : decode cX1_place 22 = .ok (.iload_n 3, 1) := by decide +kernel
theorem dX1_place_23 : decode cX1_place 23 = .ok (.iload_n 2, 1) := by decide +kernel
theorem dX1_place_24 : decode cX1_place 24 = .ok (.if_icmp .le 5, 3) := by decide +kernel
theorem dX1_place_27 : decode cX1_place 27 = .ok (.iload_n 2, 1) := by decide +kernel
theorem dX1_place_28 : decode cX1_place 28 = .ok (.ireturn, 1) := by decide +kernel
theorem dX1_place_29 : decode cX1_place 29 = .ok (.iload_n 3, 1) := by decide +kernel
theorem dX1_place_30 : decode cX1_place 30 = .ok (.sipush 1024, 3) := by decide +kernel
theorem dX1_place_33 : decode cX1_place 33 = .ok (.if_icmp .ne 9, 3) := by decide +kernel
theorem dX1_place_36 : decode cX1_place 36 = .ok (.sipush 1024, 3) := by decide +kernel
theorem dX1_place_39 : decode cX1_place 39 = .ok (.goto 15, 3) := by decide +kernel
theorem dX1_place_42 : decode cX1_place 42 = .ok (.iload_n 3, 1) := by decide +kernel
theorem dX1_place_43 : decode cX1_place 43 = .ok (.aload_n 0, 1) := by decide +kernel
theorem dX1_place_44 : decode cX1_place 44 = .ok (.getfield 17, 3) := by decide +kernel
theorem dX1_place_47 : decode cX1_place 47 = .ok (.aload_n 0, 1) := by decide +kernel
theorem dX1_place_48 : decode cX1_place 48 = .ok (.iload_n 3, 1) := by decide +kernel
theorem dX1_place_49 : decode cX1_place 49 = .ok (.invokevirtual 41, 3) := by decide +kernel
theorem dX1_place_52 : decode cX1_place 52 = .ok (.iaload, 1) := by decide +kernel
theorem dX1_place_53 : decode cX1_place 53 = .ok (.iadd, 1) := by decide +kernel
theorem dX1_place_54 : decode cX1_place 54 = .ok (.istore_n 2, 1) := by decide +kernel
theorem dX1_place_55 : decode cX1_place 55 = .ok (.goto (-53), 3) := by decide +kernel
theorem dX1_place_58 : decode cX1_place 58 = .ok (.iconst (-1), 1) := by decide +kernel
theorem dX1_place_59 : decode cX1_place 59 = .ok (.ireturn, 1) := by decide +kernel
set_option maxRecDepth 20000 in
theorem ggX1_greatest_X1_freeTo : GoodIn wsX1_greatest wsX1_freeTo := goodIn_ca (goodIn_r _ [6, 7, 8, 9, 10, 5, 11, 12, 13, 14, 15, 16, 1, 17, 18, 19, 20, 21, 22, 23, 24, 25, 26] (by decide +kernel) (by decide +kernel)) (goodIn_sub (fun _ h => List.mem_cons_of_mem _ (List.mem_append_right _ h)) (by decide +kernel))
set_option maxRecDepth 20000 in
theorem gX1_greatest_X1_freeTo : GoodIn wsX1_greatest (wsV RX1 45 RX1 yX1_freeTo wsX1_freeTo) := goodIn_app (goodIn_of _ (by decide +kernel)) ggX1_greatest_X1_freeTo
set_option maxRecDepth 20000 in
theorem ggX1_greatest_X1_firstFrom : GoodIn wsX1_greatest wsX1_firstFrom := goodIn_ca (goodIn_r _ [11, 7, 12, 13, 14, 5, 15, 16, 1, 17, 18, 19, 20, 21, 22, 23, 24, 25, 26] (by decide +kernel) (by decide +kernel)) (goodIn_sub (fun _ h => List.mem_cons_of_mem _ (List.mem_append_right _ h)) (by decide +kernel))
set_option maxRecDepth 20000 in
theorem gX1_greatest_X1_firstFrom : GoodIn wsX1_greatest (wsV RX1 41 RX1 yX1_firstFrom wsX1_firstFrom) := goodIn_app (goodIn_of _ (by decide +kernel)) ggX1_greatest_X1_firstFrom
theorem dX1_greatest_0 : decode cX1_greatest 0 = .ok (.iconst 0, 1) := by decide +kernel
theorem dX1_greatest_1 : decode cX1_greatest 1 = .ok (.istore_n 1, 1) := by decide +kernel
theorem dX1_greatest_2 : decode cX1_greatest 2 = .ok (.iconst 0, 1) := by decide +kernel
theorem dX1_greatest_3 : decode cX1_greatest 3 = .ok (.istore_n 2, 1) := by decide +kernel
theorem dX1_greatest_4 : decode cX1_greatest 4 = .ok (.iload_n 2, 1) := by decide +kernel
theorem dX1_greatest_5 : decode cX1_greatest 5 = .ok (.sipush 1024, 3) := by decide +kernel
theorem dX1_greatest_8 : decode cX1_greatest 8 = .ok (.if_icmp .ge 53, 3) := by decide +kernel
theorem dX1_greatest_11 : decode cX1_greatest 11 = .ok (.aload_n 0, 1) := by decide +kernel
theorem dX1_greatest_12 : decode cX1_greatest 12 = .ok (.iload_n 2, 1) := by decide +kernel
theorem dX1_greatest_13 : decode cX1_greatest 13 = .ok (.invokevirtual 45, 3) := by decide +kernel
theorem dX1_greatest_16 : decode cX1_greatest 16 = .ok (.istore_n 3, 1) := by decide +kernel
theorem dX1_greatest_17 : decode cX1_greatest 17 = .ok (.iload_n 3, 1) := by decide +kernel
theorem dX1_greatest_18 : decode cX1_greatest 18 = .ok (.iload_n 2, 1) := by decide +kernel
theorem dX1_greatest_19 : decode cX1_greatest 19 = .ok (.isub, 1) := by decide +kernel
theorem dX1_greatest_20 : decode cX1_greatest 20 = .ok (.iload_n 1, 1) := by decide +kernel
theorem dX1_greatest_21 : decode cX1_greatest 21 = .ok (.if_icmp .le 9, 3) := by decide +kernel
theorem dX1_greatest_24 : decode cX1_greatest 24 = .ok (.iload_n 3, 1) := by decide +kernel
theorem dX1_greatest_25 : decode cX1_greatest 25 = .ok (.iload_n 2, 1) := by decide +kernel
theorem dX1_greatest_26 : decode cX1_greatest 26 = .ok (.isub, 1) := by decide +kernel
theorem dX1_greatest_27 : decode cX1_greatest 27 = .ok (.goto 4, 3) := by decide +kernel
theorem dX1_greatest_30 : decode cX1_greatest 30 = .ok (.iload_n 1, 1) := by decide +kernel
theorem dX1_greatest_31 : decode cX1_greatest 31 = .ok (.istore_n 1, 1) := by decide +kernel
theorem dX1_greatest_32 : decode cX1_greatest 32 = .ok (.iload_n 3, 1) := by decide +kernel
theorem dX1_greatest_33 : decode cX1_greatest 33 = .ok (.sipush 1024, 3) := by decide +kernel
theorem dX1_greatest_36 : decode cX1_greatest 36 = .ok (.if_icmp .ne 9, 3) := by decide +kernel
theorem dX1_greatest_39 : decode cX1_greatest 39 = .ok (.sipush 1024, 3) := by decide +kernel
theorem dX1_greatest_42 : decode cX1_greatest 42 = .ok (.goto 15, 3) := by decide +kernel
theorem dX1_greatest_45 : decode cX1_greatest 45 = .ok (.iload_n 3, 1) := by decide +kernel
theorem dX1_greatest_46 : decode cX1_greatest 46 = .ok (.aload_n 0, 1) := by decide +kernel
theorem dX1_greatest_47 : decode cX1_greatest 47 = .ok (.getfield 17, 3) := by decide +kernel
theorem dX1_greatest_50 : decode cX1_greatest 50 = .ok (.aload_n 0, 1) := by decide +kernel
theorem dX1_greatest_51 : decode cX1_greatest 51 = .ok (.iload_n 3, 1) := by decide +kernel
theorem dX1_greatest_52 : decode cX1_greatest 52 = .ok (.invokevirtual 41, 3) := by decide +kernel
theorem dX1_greatest_55 : decode cX1_greatest 55 = .ok (.iaload, 1) := by decide +kernel
theorem dX1_greatest_56 : decode cX1_greatest 56 = .ok (.iadd, 1) := by decide +kernel
theorem dX1_greatest_57 : decode cX1_greatest 57 = .ok (.istore_n 2, 1) := by decide +kernel
theorem dX1_greatest_58 : decode cX1_greatest 58 = .ok (.goto (-54), 3) := by decide +kernel
theorem dX1_greatest_61 : decode cX1_greatest 61 = .ok (.iload_n 1, 1) := by decide +kernel
theorem dX1_greatest_62 : decode cX1_greatest 62 = .ok (.ireturn, 1) := by decide +kernel
set_option maxRecDepth 20000 in
theorem ggX1_slideAll_X1_firstFrom : GoodIn wsX1_slideAll wsX1_firstFrom := goodIn_ca (goodIn_r _ [8, 1, 9, 10, 11, 7, 12, 13, 3, 20, 21, 22, 23, 24, 25, 26, 27, 28, 29] (by decide +kernel) (by decide +kernel)) (goodIn_sub (fun _ h => List.mem_cons_of_mem _ (List.mem_append_right _ h)) (by decide +kernel))
set_option maxRecDepth 20000 in
theorem gX1_slideAll_X1_firstFrom : GoodIn wsX1_slideAll (wsV RX1 41 RX1 yX1_firstFrom wsX1_firstFrom) := goodIn_app (goodIn_of _ (by decide +kernel)) ggX1_slideAll_X1_firstFrom
set_option maxRecDepth 20000 in
theorem ggX1_slideAll_X1_isMovable : GoodIn wsX1_slideAll wsX1_isMovable := goodIn_ca (goodIn_r _ [17, 18, 19, 9, 10, 11, 7, 12, 13, 3, 20, 21, 22, 23, 24, 25, 26, 27, 28, 29] (by decide +kernel) (by decide +kernel)) (goodIn_sub (fun _ h => List.mem_cons_of_mem _ (List.mem_append_right _ h)) (by decide +kernel))
set_option maxRecDepth 20000 in
theorem gX1_slideAll_X1_isMovable : GoodIn wsX1_slideAll (wsV RX1 48 RX1 yX1_isMovable wsX1_isMovable) := goodIn_app (goodIn_of _ (by decide +kernel)) ggX1_slideAll_X1_isMovable
theorem dX1_slideAll_0 : decode cX1_slideAll 0 = .ok (.iconst 0, 1) := by decide +kernel
theorem dX1_slideAll_1 : decode cX1_slideAll 1 = .ok (.istore_n 1, 1) := by decide +kernel
theorem dX1_slideAll_2 : decode cX1_slideAll 2 = .ok (.aload_n 0, 1) := by decide +kernel
theorem dX1_slideAll_3 : decode cX1_slideAll 3 = .ok (.iconst 0, 1) := by decide +kernel
theorem dX1_slideAll_4 : decode cX1_slideAll 4 = .ok (.invokevirtual 41, 3) := by decide +kernel
theorem dX1_slideAll_7 : decode cX1_slideAll 7 = .ok (.istore_n 2, 1) := by decide +kernel
theorem dX1_slideAll_8 : decode cX1_slideAll 8 = .ok (.iload_n 2, 1) := by decide +kernel
theorem dX1_slideAll_9 : decode cX1_slideAll 9 = .ok (.ifCond .lt 66, 3) := by decide +kernel
theorem dX1_slideAll_12 : decode cX1_slideAll 12 = .ok (.aload_n 0, 1) := by decide +kernel
theorem dX1_slideAll_13 : decode cX1_slideAll 13 = .ok (.iload_n 2, 1) := by decide +kernel
theorem dX1_slideAll_14 : decode cX1_slideAll 14 = .ok (.invokevirtual 48, 3) := by decide +kernel
theorem dX1_slideAll_17 : decode cX1_slideAll 17 = .ok (.ifCond .eq 35, 3) := by decide +kernel
theorem dX1_slideAll_20 : decode cX1_slideAll 20 = .ok (.aload_n 0, 1) := by decide +kernel
theorem dX1_slideAll_21 : decode cX1_slideAll 21 = .ok (.getfield 13, 3) := by decide +kernel
theorem dX1_slideAll_24 : decode cX1_slideAll 24 = .ok (.iload_n 2, 1) := by decide +kernel
theorem dX1_slideAll_25 : decode cX1_slideAll 25 = .ok (.iaload, 1) := by decide +kernel
theorem dX1_slideAll_26 : decode cX1_slideAll 26 = .ok (.iload_n 1, 1) := by decide +kernel
theorem dX1_slideAll_27 : decode cX1_slideAll 27 = .ok (.if_icmp .le 25, 3) := by decide +kernel
theorem dX1_slideAll_30 : decode cX1_slideAll 30 = .ok (.aload_n 0, 1) := by decide +kernel
theorem dX1_slideAll_31 : decode cX1_slideAll 31 = .ok (.getfield 13, 3) := by decide +kernel
theorem dX1_slideAll_34 : decode cX1_slideAll 34 = .ok (.iload_n 2, 1) := by decide +kernel
theorem dX1_slideAll_35 : decode cX1_slideAll 35 = .ok (.iload_n 1, 1) := by decide +kernel
theorem dX1_slideAll_36 : decode cX1_slideAll 36 = .ok (.iastore, 1) := by decide +kernel
theorem dX1_slideAll_37 : decode cX1_slideAll 37 = .ok (.aload_n 0, 1) := by decide +kernel
theorem dX1_slideAll_38 : decode cX1_slideAll 38 = .ok (.aload_n 0, 1) := by decide +kernel
theorem dX1_slideAll_39 : decode cX1_slideAll 39 = .ok (.getfield 51, 3) := by decide +kernel
theorem dX1_slideAll_42 : decode cX1_slideAll 42 = .ok (.aload_n 0, 1) := by decide +kernel
theorem dX1_slideAll_43 : decode cX1_slideAll 43 = .ok (.getfield 17, 3) := by decide +kernel
theorem dX1_slideAll_46 : decode cX1_slideAll 46 = .ok (.iload_n 2, 1) := by decide +kernel
theorem dX1_slideAll_47 : decode cX1_slideAll 47 = .ok (.iaload, 1) := by decide +kernel
theorem dX1_slideAll_48 : decode cX1_slideAll 48 = .ok (.iadd, 1) := by decide +kernel
theorem dX1_slideAll_49 : decode cX1_slideAll 49 = .ok (.putfield 51, 3) := by decide +kernel
theorem dX1_slideAll_52 : decode cX1_slideAll 52 = .ok (.aload_n 0, 1) := by decide +kernel
theorem dX1_slideAll_53 : decode cX1_slideAll 53 = .ok (.getfield 13, 3) := by decide +kernel
theorem dX1_slideAll_56 : decode cX1_slideAll 56 = .ok (.iload_n 2, 1) := by decide +kernel
theorem dX1_slideAll_57 : decode cX1_slideAll 57 = .ok (.iaload, 1) := by decide +kernel
theorem dX1_slideAll_58 : decode cX1_slideAll 58 = .ok (.aload_n 0, 1) := by decide +kernel
theorem dX1_slideAll_59 : decode cX1_slideAll 59 = .ok (.getfield 17, 3) := by decide +kernel
theorem dX1_slideAll_62 : decode cX1_slideAll 62 = .ok (.iload_n 2, 1) := by decide +kernel
theorem dX1_slideAll_63 : decode cX1_slideAll 63 = .ok (.iaload, 1) := by decide +kernel
theorem dX1_slideAll_64 : decode cX1_slideAll 64 = .ok (.iadd, 1) := by decide +kernel
theorem dX1_slideAll_65 : decode cX1_slideAll 65 = .ok (.istore_n 1, 1) := by decide +kernel
theorem dX1_slideAll_66 : decode cX1_slideAll 66 = .ok (.aload_n 0, 1) := by decide +kernel
theorem dX1_slideAll_67 : decode cX1_slideAll 67 = .ok (.iload_n 1, 1) := by decide +kernel
theorem dX1_slideAll_68 : decode cX1_slideAll 68 = .ok (.invokevirtual 41, 3) := by decide +kernel
theorem dX1_slideAll_71 : decode cX1_slideAll 71 = .ok (.istore_n 2, 1) := by decide +kernel
theorem dX1_slideAll_72 : decode cX1_slideAll 72 = .ok (.goto (-64), 3) := by decide +kernel
theorem dX1_slideAll_75 : decode cX1_slideAll 75 = .ok (.return_, 1) := by decide +kernel
theorem dX1_loseOne_0 : decode cX1_loseOne 0 = .ok (.aload_n 0, 1) := by decide +kernel
theorem dX1_loseOne_1 : decode cX1_loseOne 1 = .ok (.getfield 17, 3) := by decide +kernel
theorem dX1_loseOne_4 : decode cX1_loseOne 4 = .ok (.iload_n 1, 1) := by decide +kernel
theorem dX1_loseOne_5 : decode cX1_loseOne 5 = .ok (.iconst 0, 1) := by decide +kernel
theorem dX1_loseOne_6 : decode cX1_loseOne 6 = .ok (.iastore, 1) := by decide +kernel
theorem dX1_loseOne_7 : decode cX1_loseOne 7 = .ok (.aload_n 0, 1) := by decide +kernel
theorem dX1_loseOne_8 : decode cX1_loseOne 8 = .ok (.dup, 1) := by decide +kernel
theorem dX1_loseOne_9 : decode cX1_loseOne 9 = .ok (.getfield 54, 3) := by decide +kernel
theorem dX1_loseOne_12 : decode cX1_loseOne 12 = .ok (.iconst 1, 1) := by decide +kernel
theorem dX1_loseOne_13 : decode cX1_loseOne 13 = .ok (.iadd, 1) := by decide +kernel
theorem dX1_loseOne_14 : decode cX1_loseOne 14 = .ok (.putfield 54, 3) := by decide +kernel
theorem dX1_loseOne_17 : decode cX1_loseOne 17 = .ok (.return_, 1) := by decide +kernel
set_option maxRecDepth 20000 in
theorem ggX1_firstToLose_X1_isMovable : GoodIn wsX1_firstToLose wsX1_isMovable := goodIn_ca (goodIn_r _ [7, 8, 9, 10, 11, 12, 6, 13, 14, 15, 16, 17, 18, 19, 20, 21, 22, 23, 24, 25] (by decide +kernel) (by decide +kernel)) (goodIn_sub (fun _ h => List.mem_cons_of_mem _ (List.mem_append_right _ h)) (by decide +kernel))
set_option maxRecDepth 20000 in
theorem gX1_firstToLose_X1_isMovable : GoodIn wsX1_firstToLose (wsV RX1 48 RX1 yX1_isMovable wsX1_isMovable) := goodIn_app (goodIn_of _ (by decide +kernel)) ggX1_firstToLose_X1_isMovable
theorem dX1_firstToLose_0 : decode cX1_firstToLose 0 = .ok (.iconst (-1), 1) := by decide +kernel
theorem dX1_firstToLose_1 : decode cX1_firstToLose 1 = .ok (.istore_n 2, 1) := by decide +kernel
theorem dX1_firstToLose_2 : decode cX1_firstToLose 2 = .ok (.iconst 0, 1) := by decide +kernel
theorem dX1_firstToLose_3 : decode cX1_firstToLose 3 = .ok (.istore_n 3, 1) := by decide +kernel
theorem dX1_firstToLose_4 : decode cX1_firstToLose 4 = .ok (.iload_n 3, 1) := by decide +kernel
theorem dX1_firstToLose_5 : decode cX1_firstToLose 5 = .ok (.bipush 48, 2) := by decide +kernel
theorem dX1_firstToLose_7 : decode cX1_firstToLose 7 = .ok (.if_icmp .ge 52, 3) := by decide +kernel
theorem dX1_firstToLose_10 : decode cX1_firstToLose 10 = .ok (.iload_n 3, 1) := by decide +kernel
theorem dX1_firstToLose_11 : decode cX1_firstToLose 11 = .ok (.iload_n 1, 1) := by decide +kernel
theorem dX1_firstToLose_12 : decode cX1_firstToLose 12 = .ok (.if_icmp .eq 41, 3) := by decide +kernel
theorem dX1_firstToLose_15 : decode cX1_firstToLose 15 = .ok (.aload_n 0, 1) := by decide +kernel
theorem dX1_firstToLose_16 : decode cX1_firstToLose 16 = .ok (.iload_n 3, 1) := by decide +kernel
theorem dX1_firstToLose_17 : decode cX1_firstToLose 17 = .ok (.invokevirtual 48, 3) := by decide +kernel
theorem dX1_firstToLose_20 : decode cX1_firstToLose 20 = .ok (.ifCond .eq 33, 3) := by decide +kernel
theorem dX1_firstToLose_23 : decode cX1_firstToLose 23 = .ok (.aload_n 0, 1) := by decide +kernel
theorem dX1_firstToLose_24 : decode cX1_firstToLose 24 = .ok (.getfield 26, 3) := by decide +kernel
theorem dX1_firstToLose_27 : decode cX1_firstToLose 27 = .ok (.iload_n 3, 1) := by decide +kernel
theorem dX1_firstToLose_28 : decode cX1_firstToLose 28 = .ok (.baload, 1) := by decide +kernel
theorem dX1_firstToLose_29 : decode cX1_firstToLose 29 = .ok (.ifCond .eq 24, 3) := by decide +kernel
theorem dX1_firstToLose_32 : decode cX1_firstToLose 32 = .ok (.iload_n 2, 1) := by decide +kernel
theorem dX1_firstToLose_33 : decode cX1_firstToLose 33 = .ok (.ifCond .lt 18, 3) := by decide +kernel
theorem dX1_firstToLose_36 : decode cX1_firstToLose 36 = .ok (.aload_n 0, 1) := by decide +kernel
theorem dX1_firstToLose_37 : decode cX1_firstToLose 37 = .ok (.getfield 13, 3) := by decide +kernel
theorem dX1_firstToLose_40 : decode cX1_firstToLose 40 = .ok (.iload_n 3, 1) := by decide +kernel
theorem dX1_firstToLose_41 : decode cX1_firstToLose 41 = .ok (.iaload, 1) := by decide +kernel
theorem dX1_firstToLose_42 : decode cX1_firstToLose 42 = .ok (.aload_n 0, 1) := by decide +kernel
theorem dX1_firstToLose_43 : decode cX1_firstToLose 43 = .ok (.getfield 13, 3) := by decide +kernel
theorem dX1_firstToLose_46 : decode cX1_firstToLose 46 = .ok (.iload_n 2, 1) := by decide +kernel
theorem dX1_firstToLose_47 : decode cX1_firstToLose 47 = .ok (.iaload, 1) := by decide +kernel
theorem dX1_firstToLose_48 : decode cX1_firstToLose 48 = .ok (.if_icmp .ge 5, 3) := by decide +kernel
theorem dX1_firstToLose_51 : decode cX1_firstToLose 51 = .ok (.iload_n 3, 1) := by decide +kernel
theorem dX1_firstToLose_52 : decode cX1_firstToLose 52 = .ok (.istore_n 2, 1) := by decide +kernel
theorem dX1_firstToLose_53 : decode cX1_firstToLose 53 = .ok (.iinc 3 1, 3) := by decide +kernel
theorem dX1_firstToLose_56 : decode cX1_firstToLose 56 = .ok (.goto (-52), 3) := by decide +kernel
theorem dX1_firstToLose_59 : decode cX1_firstToLose 59 = .ok (.iload_n 2, 1) := by decide +kernel
theorem dX1_firstToLose_60 : decode cX1_firstToLose 60 = .ok (.ireturn, 1) := by decide +kernel
set_option maxRecDepth 20000 in
theorem ggX1_room_X1_place : GoodIn wsX1_room wsX1_place := goodIn_ca (goodIn_r _ [5, 6, 7, 8, 9, 4, 10, 11, 12, 13, 14, 15, 16, 17, 18, 19, 20, 42, 43, 44, 45, 46, 47, 48, 49, 50, 51] (by decide +kernel) (by decide +kernel)) (goodIn_sub (fun _ h => List.mem_cons_of_mem _ (List.mem_append_right _ h)) (by decide +kernel))
set_option maxRecDepth 20000 in
theorem gX1_room_X1_place : GoodIn wsX1_room (wsV RX1 57 RX1 yX1_place wsX1_place) := goodIn_app (goodIn_of _ (by decide +kernel)) ggX1_room_X1_place
set_option maxRecDepth 20000 in
theorem ggX1_room_X1_slideAll : GoodIn wsX1_room wsX1_slideAll := goodIn_ca (goodIn_r _ [24, 11, 25, 6, 12, 13, 14, 4, 15, 16, 17, 18, 19, 20, 26, 27, 28, 29, 30, 31, 42, 43, 44, 45, 46, 47, 48, 49, 50, 51] (by decide +kernel) (by decide +kernel)) (goodIn_sub (fun _ h => List.mem_cons_of_mem _ (List.mem_append_right _ h)) (by decide +kernel))
set_option maxRecDepth 20000 in
theorem gX1_room_X1_slideAll : GoodIn wsX1_room (wsV RX1 60 RX1 yX1_slideAll wsX1_slideAll) := goodIn_app (goodIn_of _ (by decide +kernel)) ggX1_room_X1_slideAll
set_option maxRecDepth 20000 in
theorem ggX1_room_X1_firstToLose : GoodIn wsX1_room wsX1_firstToLose := goodIn_ca (goodIn_r _ [35, 36, 11, 26, 27, 28, 4, 29, 30, 31, 16, 17, 18, 19, 20, 6, 42, 43, 44, 45, 46, 47, 48, 49, 50, 51] (by decide +kernel) (by decide +kernel)) (goodIn_sub (fun _ h => List.mem_cons_of_mem _ (List.mem_append_right _ h)) (by decide +kernel))
set_option maxRecDepth 20000 in
theorem gX1_room_X1_firstToLose : GoodIn wsX1_room (wsV RX1 63 RX1 yX1_firstToLose wsX1_firstToLose) := goodIn_app (goodIn_of _ (by decide +kernel)) ggX1_room_X1_firstToLose
set_option maxRecDepth 20000 in
theorem ggX1_room_X1_loseOne : GoodIn wsX1_room wsX1_loseOne := goodIn_ca (goodIn_r _ [40, 6, 41, 42, 43, 44, 45, 46, 47, 48, 49, 50, 51] (by decide +kernel) (by decide +kernel)) (goodIn_sub (fun _ h => List.mem_cons_of_mem _ (List.mem_append_right _ h)) (by decide +kernel))
set_option maxRecDepth 20000 in
theorem gX1_room_X1_loseOne : GoodIn wsX1_room (wsV RX1 66 RX1 yX1_loseOne wsX1_loseOne) := goodIn_app (goodIn_of _ (by decide +kernel)) ggX1_room_X1_loseOne
theorem dX1_room_0 : decode cX1_room 0 = .ok (.aload_n 0, 1) := by decide +kernel
theorem dX1_room_1 : decode cX1_room 1 = .ok (.iload_n 1, 1) := by decide +kernel
theorem dX1_room_2 : decode cX1_room 2 = .ok (.invokevirtual 57, 3) := by decide +kernel
theorem dX1_room_5 : decode cX1_room 5 = .ok (.istore_n 3, 1) := by decide +kernel
theorem dX1_room_6 : decode cX1_room 6 = .ok (.iload_n 3, 1) := by decide +kernel
theorem dX1_room_7 : decode cX1_room 7 = .ok (.ifCond .lt 5, 3) := by decide +kernel
theorem dX1_room_10 : decode cX1_room 10 = .ok (.iload_n 3, 1) := by decide +kernel
theorem dX1_room_11 : decode cX1_room 11 = .ok (.ireturn, 1) := by decide +kernel
theorem dX1_room_12 : decode cX1_room 12 = .ok (.aload_n 0, 1) := by decide +kernel
theorem dX1_room_13 : decode cX1_room 13 = .ok (.invokevirtual 60, 3) := by decide +kernel
theorem dX1_room_16 : decode cX1_room 16 = .ok (.aload_n 0, 1) := by decide +kernel
theorem dX1_room_17 : decode cX1_room 17 = .ok (.iload_n 1, 1) := by decide +kernel
theorem dX1_room_18 : decode cX1_room 18 = .ok (.invokevirtual 57, 3) := by decide +kernel
theorem dX1_room_21 : decode cX1_room 21 = .ok (.istore_n 3, 1) := by decide +kernel
theorem dX1_room_22 : decode cX1_room 22 = .ok (.iload_n 3, 1) := by decide +kernel
theorem dX1_room_23 : decode cX1_room 23 = .ok (.ifCond .ge 36, 3) := by decide +kernel
theorem dX1_room_26 : decode cX1_room 26 = .ok (.aload_n 0, 1) := by decide +kernel
theorem dX1_room_27 : decode cX1_room 27 = .ok (.iload_n 2, 1) := by decide +kernel
theorem dX1_room_28 : decode cX1_room 28 = .ok (.invokevirtual 63, 3) := by decide +kernel
theorem dX1_room_31 : decode cX1_room 31 = .ok (.istore 4, 2) := by decide +kernel
theorem dX1_room_33 : decode cX1_room 33 = .ok (.iload 4, 2) := by decide +kernel
theorem dX1_room_35 : decode cX1_room 35 = .ok (.ifCond .ge 5, 3) := by decide +kernel
theorem dX1_room_38 : decode cX1_room 38 = .ok (.iconst (-1), 1) := by decide +kernel
theorem dX1_room_39 : decode cX1_room 39 = .ok (.ireturn, 1) := by decide +kernel
theorem dX1_room_40 : decode cX1_room 40 = .ok (.aload_n 0, 1) := by decide +kernel
theorem dX1_room_41 : decode cX1_room 41 = .ok (.iload 4, 2) := by decide +kernel
theorem dX1_room_43 : decode cX1_room 43 = .ok (.invokevirtual 66, 3) := by decide +kernel
theorem dX1_room_46 : decode cX1_room 46 = .ok (.aload_n 0, 1) := by decide +kernel
theorem dX1_room_47 : decode cX1_room 47 = .ok (.invokevirtual 60, 3) := by decide +kernel
theorem dX1_room_50 : decode cX1_room 50 = .ok (.aload_n 0, 1) := by decide +kernel
theorem dX1_room_51 : decode cX1_room 51 = .ok (.iload_n 1, 1) := by decide +kernel
theorem dX1_room_52 : decode cX1_room 52 = .ok (.invokevirtual 57, 3) := by decide +kernel
theorem dX1_room_55 : decode cX1_room 55 = .ok (.istore_n 3, 1) := by decide +kernel
theorem dX1_room_56 : decode cX1_room 56 = .ok (.goto (-34), 3) := by decide +kernel
theorem dX1_room_59 : decode cX1_room 59 = .ok (.iload_n 3, 1) := by decide +kernel
theorem dX1_room_60 : decode cX1_room 60 = .ok (.ireturn, 1) := by decide +kernel
theorem dX1_noSize_0 : decode cX1_noSize 0 = .ok (.iload_n 0, 1) := by decide +kernel
theorem dX1_noSize_1 : decode cX1_noSize 1 = .ok (.iconst 1, 1) := by decide +kernel
theorem dX1_noSize_2 : decode cX1_noSize 2 = .ok (.if_icmp .lt 10, 3) := by decide +kernel
theorem dX1_noSize_5 : decode cX1_noSize 5 = .ok (.iload_n 0, 1) := by decide +kernel
theorem dX1_noSize_6 : decode cX1_noSize 6 = .ok (.sipush 1024, 3) := by decide +kernel
theorem dX1_noSize_9 : decode cX1_noSize 9 = .ok (.if_icmp .le 7, 3) := by decide +kernel
theorem dX1_noSize_12 : decode cX1_noSize 12 = .ok (.iconst 1, 1) := by decide +kernel
theorem dX1_noSize_13 : decode cX1_noSize 13 = .ok (.goto 4, 3) := by decide +kernel
theorem dX1_noSize_16 : decode cX1_noSize 16 = .ok (.iconst 0, 1) := by decide +kernel
theorem dX1_noSize_17 : decode cX1_noSize 17 = .ok (.ireturn, 1) := by decide +kernel
theorem dX1_notUsed_0 : decode cX1_notUsed 0 = .ok (.iload_n 1, 1) := by decide +kernel
theorem dX1_notUsed_1 : decode cX1_notUsed 1 = .ok (.ifCond .lt 18, 3) := by decide +kernel
theorem dX1_notUsed_4 : decode cX1_notUsed 4 = .ok (.iload_n 1, 1) := by decide +kernel
theorem dX1_notUsed_5 : decode cX1_notUsed 5 = .ok (.bipush 48, 2) := by decide +kernel
theorem dX1_notUsed_7 : decode cX1_notUsed 7 = .ok (.if_icmp .ge 12, 3) := by decide +kernel
theorem dX1_notUsed_10 : decode cX1_notUsed 10 = .ok (.aload_n 0, 1) := by decide +kernel
theorem dX1_notUsed_11 : decode cX1_notUsed 11 = .ok (.getfield 7, 3) := by decide +kernel
theorem dX1_notUsed_14 : decode cX1_notUsed 14 = .ok (.iload_n 1, 1) := by decide +kernel
theorem dX1_notUsed_15 : decode cX1_notUsed 15 = .ok (.baload, 1) := by decide +kernel
theorem dX1_notUsed_16 : decode cX1_notUsed 16 = .ok (.ifCond .ne 7, 3) := by decide +kernel
theorem dX1_notUsed_19 : decode cX1_notUsed 19 = .ok (.iconst 1, 1) := by decide +kernel
theorem dX1_notUsed_20 : decode cX1_notUsed 20 = .ok (.goto 4, 3) := by decide +kernel
theorem dX1_notUsed_23 : decode cX1_notUsed 23 = .ok (.iconst 0, 1) := by decide +kernel
theorem dX1_notUsed_24 : decode cX1_notUsed 24 = .ok (.ireturn, 1) := by decide +kernel
theorem dX1_become_0 : decode cX1_become 0 = .ok (.aload_n 0, 1) := by decide +kernel
theorem dX1_become_1 : decode cX1_become 1 = .ok (.getfield 13, 3) := by decide +kernel
theorem dX1_become_4 : decode cX1_become 4 = .ok (.iload_n 1, 1) := by decide +kernel
theorem dX1_become_5 : decode cX1_become 5 = .ok (.iload_n 2, 1) := by decide +kernel
theorem dX1_become_6 : decode cX1_become 6 = .ok (.iastore, 1) := by decide +kernel
theorem dX1_become_7 : decode cX1_become 7 = .ok (.aload_n 0, 1) := by decide +kernel
theorem dX1_become_8 : decode cX1_become 8 = .ok (.getfield 17, 3) := by decide +kernel
theorem dX1_become_11 : decode cX1_become 11 = .ok (.iload_n 1, 1) := by decide +kernel
theorem dX1_become_12 : decode cX1_become 12 = .ok (.iload_n 3, 1) := by decide +kernel
theorem dX1_become_13 : decode cX1_become 13 = .ok (.iastore, 1) := by decide +kernel
theorem dX1_become_14 : decode cX1_become 14 = .ok (.iconst 0, 1) := by decide +kernel
theorem dX1_become_15 : decode cX1_become 15 = .ok (.istore 4, 2) := by decide +kernel
theorem dX1_become_17 : decode cX1_become 17 = .ok (.iload 4, 2) := by decide +kernel
theorem dX1_become_19 : decode cX1_become 19 = .ok (.iload_n 3, 1) := by decide +kernel
theorem dX1_become_20 : decode cX1_become 20 = .ok (.if_icmp .ge 23, 3) := by decide +kernel
theorem dX1_become_23 : decode cX1_become 23 = .ok (.aload_n 0, 1) := by decide +kernel
theorem dX1_become_24 : decode cX1_become 24 = .ok (.getfield 30, 3) := by decide +kernel
theorem dX1_become_27 : decode cX1_become 27 = .ok (.sipush 1024, 3) := by decide +kernel
theorem dX1_become_30 : decode cX1_become 30 = .ok (.iload_n 1, 1) := by decide +kernel
theorem dX1_become_31 : decode cX1_become 31 = .ok (.imul, 1) := by decide +kernel
theorem dX1_become_32 : decode cX1_become 32 = .ok (.iload 4, 2) := by decide +kernel
theorem dX1_become_34 : decode cX1_become 34 = .ok (.iadd, 1) := by decide +kernel
theorem dX1_become_35 : decode cX1_become 35 = .ok (.iconst 0, 1) := by decide +kernel
theorem dX1_become_36 : decode cX1_become 36 = .ok (.iastore, 1) := by decide +kernel
theorem dX1_become_37 : decode cX1_become 37 = .ok (.iinc 4 1, 3) := by decide +kernel
theorem dX1_become_40 : decode cX1_become 40 = .ok (.goto (-23), 3) := by decide +kernel
theorem dX1_become_43 : decode cX1_become 43 = .ok (.return_, 1) := by decide +kernel
set_option maxRecDepth 20000 in
theorem ggX1_ask_X1_noSize : GoodIn wsX1_ask wsX1_noSize := goodIn_r _ [9] (by decide +kernel) (by decide +kernel)
set_option maxRecDepth 20000 in
theorem gX1_ask_X1_noSize : GoodIn wsX1_ask (va_wsS RX1 70 yX1_noSize wsX1_noSize) := goodIn_app (goodIn_of _ (by decide +kernel)) ggX1_ask_X1_noSize
set_option maxRecDepth 20000 in
theorem ggX1_ask_X1_room : GoodIn wsX1_ask wsX1_room := goodIn_ca (goodIn_r _ [13, 14, 15, 16, 8, 17, 18, 19, 20, 21, 22, 23, 24, 25, 26, 27, 28, 29, 30, 31, 2, 32, 33, 34, 35, 36, 37, 38, 39, 40, 3, 4, 41, 42, 43, 44, 5, 45, 46, 47, 48, 49, 55, 56, 57, 58, 59, 60, 61, 62, 63, 64] (by decide +kernel) (by decide +kernel)) (goodIn_sub (fun _ h => List.mem_cons_of_mem _ (List.mem_append_right _ h)) (by decide +kernel))
set_option maxRecDepth 20000 in
theorem gX1_ask_X1_room : GoodIn wsX1_ask (wsV RX1 73 RX1 yX1_room wsX1_room) := goodIn_app (goodIn_of _ (by decide +kernel)) ggX1_ask_X1_room
set_option maxRecDepth 20000 in
theorem ggX1_ask_X1_become : GoodIn wsX1_ask wsX1_become := goodIn_ca (goodIn_r _ [53, 23, 18, 54, 55, 56, 57, 58, 59, 60, 61, 62, 63, 64] (by decide +kernel) (by decide +kernel)) (goodIn_sub (fun _ h => List.mem_cons_of_mem _ (List.mem_append_right _ h)) (by decide +kernel))
set_option maxRecDepth 20000 in
theorem gX1_ask_X1_become : GoodIn wsX1_ask (wsV RX1 77 RX1 yX1_become wsX1_become) := goodIn_app (goodIn_of _ (by decide +kernel)) ggX1_ask_X1_become
theorem dX1_ask_0 : decode cX1_ask 0 = .ok (.aload_n 0, 1) := by decide +kernel
theorem dX1_ask_1 : decode cX1_ask 1 = .ok (.iload_n 1, 1) := by decide +kernel
theorem dX1_ask_2 : decode cX1_ask 2 = .ok (.invokestatic 70, 3) := by decide +kernel
theorem dX1_ask_5 : decode cX1_ask 5 = .ok (.ifCond .eq 7, 3) := by decide +kernel
theorem dX1_ask_8 : decode cX1_ask 8 = .ok (.iconst 1, 1) := by decide +kernel
theorem dX1_ask_9 : decode cX1_ask 9 = .ok (.goto 4, 3) := by decide +kernel
theorem dX1_ask_12 : decode cX1_ask 12 = .ok (.iconst 0, 1) := by decide +kernel
theorem dX1_ask_13 : decode cX1_ask 13 = .ok (.putfield 33, 3) := by decide +kernel
theorem dX1_ask_16 : decode cX1_ask 16 = .ok (.aload_n 0, 1) := by decide +kernel
theorem dX1_ask_17 : decode cX1_ask 17 = .ok (.getfield 33, 3) := by decide +kernel
theorem dX1_ask_20 : decode cX1_ask 20 = .ok (.ifCond .le 5, 3) := by decide +kernel
theorem dX1_ask_23 : decode cX1_ask 23 = .ok (.iconst 0, 1) := by decide +kernel
theorem dX1_ask_24 : decode cX1_ask 24 = .ok (.ireturn, 1) := by decide +kernel
theorem dX1_ask_25 : decode cX1_ask 25 = .ok (.iconst 0, 1) := by decide +kernel
theorem dX1_ask_26 : decode cX1_ask 26 = .ok (.istore_n 3, 1) := by decide +kernel
theorem dX1_ask_27 : decode cX1_ask 27 = .ok (.iload_n 3, 1) := by decide +kernel
theorem dX1_ask_28 : decode cX1_ask 28 = .ok (.bipush 48, 2) := by decide +kernel
theorem dX1_ask_30 : decode cX1_ask 30 = .ok (.if_icmp .ge 18, 3) := by decide +kernel
theorem dX1_ask_33 : decode cX1_ask 33 = .ok (.aload_n 0, 1) := by decide +kernel
theorem dX1_ask_34 : decode cX1_ask 34 = .ok (.getfield 7, 3) := by decide +kernel
theorem dX1_ask_37 : decode cX1_ask 37 = .ok (.iload_n 3, 1) := by decide +kernel
theorem dX1_ask_38 : decode cX1_ask 38 = .ok (.baload, 1) := by decide +kernel
theorem dX1_ask_39 : decode cX1_ask 39 = .ok (.ifCond .eq 9, 3) := by decide +kernel
theorem dX1_ask_42 : decode cX1_ask 42 = .ok (.iinc 3 1, 3) := by decide +kernel
theorem dX1_ask_45 : decode cX1_ask 45 = .ok (.goto (-18), 3) := by decide +kernel
theorem dX1_ask_48 : decode cX1_ask 48 = .ok (.iload_n 3, 1) := by decide +kernel
theorem dX1_ask_49 : decode cX1_ask 49 = .ok (.bipush 48, 2) := by decide +kernel
theorem dX1_ask_51 : decode cX1_ask 51 = .ok (.if_icmp .ne 5, 3) := by decide +kernel
theorem dX1_ask_54 : decode cX1_ask 54 = .ok (.iconst (-1), 1) := by decide +kernel
theorem dX1_ask_55 : decode cX1_ask 55 = .ok (.ireturn, 1) := by decide +kernel
theorem dX1_ask_56 : decode cX1_ask 56 = .ok (.aload_n 0, 1) := by decide +kernel
theorem dX1_ask_57 : decode cX1_ask 57 = .ok (.iload_n 1, 1) := by decide +kernel
theorem dX1_ask_58 : decode cX1_ask 58 = .ok (.iconst (-1), 1) := by decide +kernel
theorem dX1_ask_59 : decode cX1_ask 59 = .ok (.invokevirtual 73, 3) := by decide +kernel
theorem dX1_ask_62 : decode cX1_ask 62 = .ok (.istore 4, 2) := by decide +kernel
theorem dX1_ask_64 : decode cX1_ask 64 = .ok (.iload 4, 2) := by decide +kernel
theorem dX1_ask_66 : decode cX1_ask 66 = .ok (.ifCond .ge 5, 3) := by decide +kernel
theorem dX1_ask_69 : decode cX1_ask 69 = .ok (.iconst (-1), 1) := by decide +kernel
theorem dX1_ask_70 : decode cX1_ask 70 = .ok (.ireturn, 1) := by decide +kernel
theorem dX1_ask_71 : decode cX1_ask 71 = .ok (.aload_n 0, 1) := by decide +kernel
theorem dX1_ask_72 : decode cX1_ask 72 = .ok (.getfield 7, 3) := by decide +kernel
theorem dX1_ask_75 : decode cX1_ask 75 = .ok (.iload_n 3, 1) := by decide +kernel
theorem dX1_ask_76 : decode cX1_ask 76 = .ok (.iconst 1, 1) := by decide +kernel
theorem dX1_ask_77 : decode cX1_ask 77 = .ok (.bastore, 1) := by decide +kernel
theorem dX1_ask_78 : decode cX1_ask 78 = .ok (.aload_n 0, 1) := by decide +kernel
theorem dX1_ask_79 : decode cX1_ask 79 = .ok (.getfield 20, 3) := by decide +kernel
theorem dX1_ask_82 : decode cX1_ask 82 = .ok (.iload_n 3, 1) := by decide +kernel
theorem dX1_ask_83 : decode cX1_ask 83 = .ok (.iload_n 2, 1) := by decide +kernel
theorem dX1_ask_84 : decode cX1_ask 84 = .ok (.bastore, 1) := by decide +kernel
theorem dX1_ask_85 : decode cX1_ask 85 = .ok (.aload_n 0, 1) := by decide +kernel
theorem dX1_ask_86 : decode cX1_ask 86 = .ok (.getfield 23, 3) := by decide +kernel
theorem dX1_ask_89 : decode cX1_ask 89 = .ok (.iload_n 3, 1) := by decide +kernel
theorem dX1_ask_90 : decode cX1_ask 90 = .ok (.iconst 0, 1) := by decide +kernel
theorem dX1_ask_91 : decode cX1_ask 91 = .ok (.bastore, 1) := by decide +kernel
theorem dX1_ask_92 : decode cX1_ask 92 = .ok (.aload_n 0, 1) := by decide +kernel
theorem dX1_ask_93 : decode cX1_ask 93 = .ok (.getfield 26, 3) := by decide +kernel
theorem dX1_ask_96 : decode cX1_ask 96 = .ok (.iload_n 3, 1) := by decide +kernel
theorem dX1_ask_97 : decode cX1_ask 97 = .ok (.iconst 0, 1) := by decide +kernel
theorem dX1_ask_98 : decode cX1_ask 98 = .ok (.bastore, 1) := by decide +kernel
theorem dX1_ask_99 : decode cX1_ask 99 = .ok (.aload_n 0, 1) := by decide +kernel
theorem dX1_ask_100 : decode cX1_ask 100 = .ok (.iload_n 3, 1) := by decide +kernel
theorem dX1_ask_101 : decode cX1_ask 101 = .ok (.iload 4, 2) := by decide +kernel
theorem dX1_ask_103 : decode cX1_ask 103 = .ok (.iload_n 1, 1) := by decide +kernel
theorem dX1_ask_104 : decode cX1_ask 104 = .ok (.invokevirtual 77, 3) := by decide +kernel
theorem dX1_ask_107 : decode cX1_ask 107 = .ok (.iload_n 3, 1) := by decide +kernel
theorem dX1_ask_108 : decode cX1_ask 108 = .ok (.ireturn, 1) := by decide +kernel
set_option maxRecDepth 20000 in
theorem ggX1_drop_X1_notUsed : GoodIn wsX1_drop wsX1_notUsed := goodIn_ca (goodIn_r _ [8, 3, 9, 10, 11, 12, 13, 14, 15, 16, 17, 18] (by decide +kernel) (by decide +kernel)) (goodIn_sub (fun _ h => List.mem_cons_of_mem _ (List.mem_append_right _ h)) (by decide +kernel))
set_option maxRecDepth 20000 in
theorem gX1_drop_X1_notUsed : GoodIn wsX1_drop (wsV RX1 81 RX1 yX1_notUsed wsX1_notUsed) := goodIn_app (goodIn_of _ (by decide +kernel)) ggX1_drop_X1_notUsed
theorem dX1_drop_0 : decode cX1_drop 0 = .ok (.aload_n 0, 1) := by decide +kernel
theorem dX1_drop_1 : decode cX1_drop 1 = .ok (.aload_n 0, 1) := by decide +kernel
theorem dX1_drop_2 : decode cX1_drop 2 = .ok (.iload_n 1, 1) := by decide +kernel
theorem dX1_drop_3 : decode cX1_drop 3 = .ok (.invokevirtual 81, 3) := by decide +kernel
theorem dX1_drop_6 : decode cX1_drop 6 = .ok (.ifCond .eq 7, 3) := by decide +kernel
theorem dX1_drop_9 : decode cX1_drop 9 = .ok (.iconst 1, 1) := by decide +kernel
theorem dX1_drop_10 : decode cX1_drop 10 = .ok (.goto 4, 3) := by decide +kernel
theorem dX1_drop_13 : decode cX1_drop 13 = .ok (.iconst 0, 1) := by decide +kernel
theorem dX1_drop_14 : decode cX1_drop 14 = .ok (.putfield 33, 3) := by decide +kernel
theorem dX1_drop_17 : decode cX1_drop 17 = .ok (.aload_n 0, 1) := by decide +kernel
theorem dX1_drop_18 : decode cX1_drop 18 = .ok (.getfield 33, 3) := by decide +kernel
theorem dX1_drop_21 : decode cX1_drop 21 = .ok (.ifCond .le 5, 3) := by decide +kernel
theorem dX1_drop_24 : decode cX1_drop 24 = .ok (.iconst 0, 1) := by decide +kernel
theorem dX1_drop_25 : decode cX1_drop 25 = .ok (.ireturn, 1) := by decide +kernel
theorem dX1_drop_26 : decode cX1_drop 26 = .ok (.aload_n 0, 1) := by decide +kernel
theorem dX1_drop_27 : decode cX1_drop 27 = .ok (.getfield 17, 3) := by decide +kernel
theorem dX1_drop_30 : decode cX1_drop 30 = .ok (.iload_n 1, 1) := by decide +kernel
theorem dX1_drop_31 : decode cX1_drop 31 = .ok (.iaload, 1) := by decide +kernel
theorem dX1_drop_32 : decode cX1_drop 32 = .ok (.istore_n 2, 1) := by decide +kernel
theorem dX1_drop_33 : decode cX1_drop 33 = .ok (.aload_n 0, 1) := by decide +kernel
theorem dX1_drop_34 : decode cX1_drop 34 = .ok (.getfield 7, 3) := by decide +kernel
theorem dX1_drop_37 : decode cX1_drop 37 = .ok (.iload_n 1, 1) := by decide +kernel
theorem dX1_drop_38 : decode cX1_drop 38 = .ok (.iconst 0, 1) := by decide +kernel
theorem dX1_drop_39 : decode cX1_drop 39 = .ok (.bastore, 1) := by decide +kernel
theorem dX1_drop_40 : decode cX1_drop 40 = .ok (.aload_n 0, 1) := by decide +kernel
theorem dX1_drop_41 : decode cX1_drop 41 = .ok (.getfield 17, 3) := by decide +kernel
theorem dX1_drop_44 : decode cX1_drop 44 = .ok (.iload_n 1, 1) := by decide +kernel
theorem dX1_drop_45 : decode cX1_drop 45 = .ok (.iconst 0, 1) := by decide +kernel
theorem dX1_drop_46 : decode cX1_drop 46 = .ok (.iastore, 1) := by decide +kernel
theorem dX1_drop_47 : decode cX1_drop 47 = .ok (.iload_n 2, 1) := by decide +kernel
theorem dX1_drop_48 : decode cX1_drop 48 = .ok (.ireturn, 1) := by decide +kernel
set_option maxRecDepth 20000 in
theorem ggX1_resize_X1_notUsed : GoodIn wsX1_resize wsX1_notUsed := goodIn_ca (goodIn_r _ [13, 14, 59, 60, 61, 62, 63, 64, 65, 66, 67, 68] (by decide +kernel) (by decide +kernel)) (goodIn_sub (fun _ h => List.mem_cons_of_mem _ (List.mem_append_right _ h)) (by decide +kernel))
set_option maxRecDepth 20000 in
theorem gX1_resize_X1_notUsed : GoodIn wsX1_resize (wsV RX1 81 RX1 yX1_notUsed wsX1_notUsed) := goodIn_app (goodIn_of _ (by decide +kernel)) ggX1_resize_X1_notUsed
set_option maxRecDepth 20000 in
theorem ggX1_resize_X1_noSize : GoodIn wsX1_resize wsX1_noSize := goodIn_r _ [17] (by decide +kernel) (by decide +kernel)
set_option maxRecDepth 20000 in
theorem gX1_resize_X1_noSize : GoodIn wsX1_resize (va_wsS RX1 70 yX1_noSize wsX1_noSize) := goodIn_app (goodIn_of _ (by decide +kernel)) ggX1_resize_X1_noSize
set_option maxRecDepth 20000 in
theorem ggX1_resize_X1_room : GoodIn wsX1_resize wsX1_room := goodIn_ca (goodIn_r _ [21, 22, 23, 24, 12, 25, 2, 26, 27, 28, 29, 6, 30, 31, 32, 33, 34, 35, 36, 37, 14, 38, 39, 40, 41, 7, 42, 43, 44, 45, 3, 4, 46, 47, 48, 49, 5, 50, 51, 52, 53, 54, 59, 60, 61, 62, 63, 64, 65, 66, 67, 68] (by decide +kernel) (by decide +kernel)) (goodIn_sub (fun _ h => List.mem_cons_of_mem _ (List.mem_append_right _ h)) (by decide +kernel))
set_option maxRecDepth 20000 in
theorem gX1_resize_X1_room : GoodIn wsX1_resize (wsV RX1 73 RX1 yX1_room wsX1_room) := goodIn_app (goodIn_of _ (by decide +kernel)) ggX1_resize_X1_room
set_option maxRecDepth 20000 in
theorem ggX1_resize_X1_become : GoodIn wsX1_resize wsX1_become := goodIn_ca (goodIn_r _ [58, 6, 2, 8, 59, 60, 61, 62, 63, 64, 65, 66, 67, 68] (by decide +kernel) (by decide +kernel)) (goodIn_sub (fun _ h => List.mem_cons_of_mem _ (List.mem_append_right _ h)) (by decide +kernel))
set_option maxRecDepth 20000 in
theorem gX1_resize_X1_become : GoodIn wsX1_resize (wsV RX1 77 RX1 yX1_become wsX1_become) := goodIn_app (goodIn_of _ (by decide +kernel)) ggX1_resize_X1_become
set_option maxRecDepth 20000 in
theorem ggX1_resize_X1_freeTo : GoodIn wsX1_resize wsX1_freeTo := goodIn_ca (goodIn_r _ [29, 6, 30, 31, 32, 12, 33, 34, 35, 36, 37, 14, 2, 59, 60, 61, 62, 63, 64, 65, 66, 67, 68] (by decide +kernel) (by decide +kernel)) (goodIn_sub (fun _ h => List.mem_cons_of_mem _ (List.mem_append_right _ h)) (by decide +kernel))
set_option maxRecDepth 20000 in
theorem gX1_resize_X1_freeTo : GoodIn wsX1_resize (wsV RX1 45 RX1 yX1_freeTo wsX1_freeTo) := goodIn_app (goodIn_of _ (by decide +kernel)) ggX1_resize_X1_freeTo
theorem dX1_resize_0 : decode cX1_resize 0 = .ok (.aload_n 0, 1) := by decide +kernel
theorem dX1_resize_1 : decode cX1_resize 1 = .ok (.aload_n 0, 1) := by decide +kernel
theorem dX1_resize_2 : decode cX1_resize 2 = .ok (.iload_n 1, 1) := by decide +kernel
theorem dX1_resize_3 : decode cX1_resize 3 = .ok (.invokevirtual 81, 3) := by decide +kernel
theorem dX1_resize_6 : decode cX1_resize 6 = .ok (.ifCond .ne 10, 3) := by decide +kernel
theorem dX1_resize_9 : decode cX1_resize 9 = .ok (.iload_n 2, 1) := by decide +kernel
theorem dX1_resize_10 : decode cX1_resize 10 = .ok (.invokestatic 70, 3) := by decide +kernel
theorem dX1_resize_13 : decode cX1_resize 13 = .ok (.ifCond .eq 7, 3) := by decide +kernel
theorem dX1_resize_16 : decode cX1_resize 16 = .ok (.iconst 1, 1) := by decide +kernel
theorem dX1_resize_17 : decode cX1_resize 17 = .ok (.goto 4, 3) := by decide +kernel
theorem dX1_resize_20 : decode cX1_resize 20 = .ok (.iconst 0, 1) := by decide +kernel
theorem dX1_resize_21 : decode cX1_resize 21 = .ok (.putfield 33, 3) := by decide +kernel
theorem dX1_resize_24 : decode cX1_resize 24 = .ok (.aload_n 0, 1) := by decide +kernel
theorem dX1_resize_25 : decode cX1_resize 25 = .ok (.getfield 33, 3) := by decide +kernel
theorem dX1_resize_28 : decode cX1_resize 28 = .ok (.ifCond .le 5, 3) := by decide +kernel
theorem dX1_resize_31 : decode cX1_resize 31 = .ok (.iconst 0, 1) := by decide +kernel
theorem dX1_resize_32 : decode cX1_resize 32 = .ok (.ireturn, 1) := by decide +kernel
theorem dX1_resize_33 : decode cX1_resize 33 = .ok (.aload_n 0, 1) := by decide +kernel
theorem dX1_resize_34 : decode cX1_resize 34 = .ok (.getfield 17, 3) := by decide +kernel
theorem dX1_resize_37 : decode cX1_resize 37 = .ok (.iload_n 1, 1) := by decide +kernel
theorem dX1_resize_38 : decode cX1_resize 38 = .ok (.iaload, 1) := by decide +kernel
theorem dX1_resize_39 : decode cX1_resize 39 = .ok (.istore_n 3, 1) := by decide +kernel
theorem dX1_resize_40 : decode cX1_resize 40 = .ok (.iload_n 3, 1) := by decide +kernel
theorem dX1_resize_41 : decode cX1_resize 41 = .ok (.ifCond .ne 56, 3) := by decide +kernel
theorem dX1_resize_44 : decode cX1_resize 44 = .ok (.aload_n 0, 1) := by decide +kernel
theorem dX1_resize_45 : decode cX1_resize 45 = .ok (.iload_n 2, 1) := by decide +kernel
theorem dX1_resize_46 : decode cX1_resize 46 = .ok (.iload_n 1, 1) := by decide +kernel
theorem dX1_resize_47 : decode cX1_resize 47 = .ok (.invokevirtual 73, 3) := by decide +kernel
theorem dX1_resize_50 : decode cX1_resize 50 = .ok (.istore 4, 2) := by decide +kernel
theorem dX1_resize_52 : decode cX1_resize 52 = .ok (.iload 4, 2) := by decide +kernel
theorem dX1_resize_54 : decode cX1_resize 54 = .ok (.ifCond .lt 32, 3) := by decide +kernel
theorem dX1_resize_57 : decode cX1_resize 57 = .ok (.aload_n 0, 1) := by decide +kernel
theorem dX1_resize_58 : decode cX1_resize 58 = .ok (.getfield 20, 3) := by decide +kernel
theorem dX1_resize_61 : decode cX1_resize 61 = .ok (.iload_n 1, 1) := by decide +kernel
theorem dX1_resize_62 : decode cX1_resize 62 = .ok (.iconst 0, 1) := by decide +kernel
theorem dX1_resize_63 : decode cX1_resize 63 = .ok (.bastore, 1) := by decide +kernel
theorem dX1_resize_64 : decode cX1_resize 64 = .ok (.aload_n 0, 1) := by decide +kernel
theorem dX1_resize_65 : decode cX1_resize 65 = .ok (.getfield 23, 3) := by decide +kernel
theorem dX1_resize_68 : decode cX1_resize 68 = .ok (.iload_n 1, 1) := by decide +kernel
theorem dX1_resize_69 : decode cX1_resize 69 = .ok (.iconst 0, 1) := by decide +kernel
theorem dX1_resize_70 : decode cX1_resize 70 = .ok (.bastore, 1) := by decide +kernel
theorem dX1_resize_71 : decode cX1_resize 71 = .ok (.aload_n 0, 1) := by decide +kernel
theorem dX1_resize_72 : decode cX1_resize 72 = .ok (.getfield 26, 3) := by decide +kernel
theorem dX1_resize_75 : decode cX1_resize 75 = .ok (.iload_n 1, 1) := by decide +kernel
theorem dX1_resize_76 : decode cX1_resize 76 = .ok (.iconst 0, 1) := by decide +kernel
theorem dX1_resize_77 : decode cX1_resize 77 = .ok (.bastore, 1) := by decide +kernel
theorem dX1_resize_78 : decode cX1_resize 78 = .ok (.aload_n 0, 1) := by decide +kernel
theorem dX1_resize_79 : decode cX1_resize 79 = .ok (.iload_n 1, 1) := by decide +kernel
theorem dX1_resize_80 : decode cX1_resize 80 = .ok (.iload 4, 2) := by decide +kernel
theorem dX1_resize_82 : decode cX1_resize 82 = .ok (.iload_n 2, 1) := by decide +kernel
theorem dX1_resize_83 : decode cX1_resize 83 = .ok (.invokevirtual 77, 3) := by decide +kernel
theorem dX1_resize_86 : decode cX1_resize 86 = .ok (.iload 4, 2) := by decide +kernel
theorem dX1_resize_88 : decode cX1_resize 88 = .ok (.ifCond .lt 7, 3) := by decide +kernel
theorem dX1_resize_91 : decode cX1_resize 91 = .ok (.iconst 1, 1) := by decide +kernel
theorem dX1_resize_92 : decode cX1_resize 92 = .ok (.goto 4, 3) := by decide +kernel
theorem dX1_resize_95 : decode cX1_resize 95 = .ok (.iconst 0, 1) := by decide +kernel
theorem dX1_resize_96 : decode cX1_resize 96 = .ok (.ireturn, 1) := by decide +kernel
theorem dX1_resize_97 : decode cX1_resize 97 = .ok (.iload_n 2, 1) := by decide +kernel
theorem dX1_resize_98 : decode cX1_resize 98 = .ok (.iload_n 3, 1) := by decide +kernel
theorem dX1_resize_99 : decode cX1_resize 99 = .ok (.if_icmp .le 79, 3) := by decide +kernel
theorem dX1_resize_102 : decode cX1_resize 102 = .ok (.aload_n 0, 1) := by decide +kernel
theorem dX1_resize_103 : decode cX1_resize 103 = .ok (.aload_n 0, 1) := by decide +kernel
theorem dX1_resize_104 : decode cX1_resize 104 = .ok (.getfield 13, 3) := by decide +kernel
theorem dX1_resize_107 : decode cX1_resize 107 = .ok (.iload_n 1, 1) := by decide +kernel
theorem dX1_resize_108 : decode cX1_resize 108 = .ok (.iaload, 1) := by decide +kernel
theorem dX1_resize_109 : decode cX1_resize 109 = .ok (.iload_n 3, 1) := by decide +kernel
theorem dX1_resize_110 : decode cX1_resize 110 = .ok (.iadd, 1) := by decide +kernel
theorem dX1_resize_111 : decode cX1_resize 111 = .ok (.invokevirtual 45, 3) := by decide +kernel
theorem dX1_resize_114 : decode cX1_resize 114 = .ok (.aload_n 0, 1) := by decide +kernel
theorem dX1_resize_115 : decode cX1_resize 115 = .ok (.getfield 13, 3) := by decide +kernel
theorem dX1_resize_118 : decode cX1_resize 118 = .ok (.iload_n 1, 1) := by decide +kernel
theorem dX1_resize_119 : decode cX1_resize 119 = .ok (.iaload, 1) := by decide +kernel
theorem dX1_resize_120 : decode cX1_resize 120 = .ok (.isub, 1) := by decide +kernel
theorem dX1_resize_121 : decode cX1_resize 121 = .ok (.iload_n 2, 1) := by decide +kernel
theorem dX1_resize_122 : decode cX1_resize 122 = .ok (.if_icmp .ge 56, 3) := by decide +kernel
theorem dX1_resize_125 : decode cX1_resize 125 = .ok (.aload_n 0, 1) := by decide +kernel
theorem dX1_resize_126 : decode cX1_resize 126 = .ok (.getfield 20, 3) := by decide +kernel
theorem dX1_resize_129 : decode cX1_resize 129 = .ok (.iload_n 1, 1) := by decide +kernel
theorem dX1_resize_130 : decode cX1_resize 130 = .ok (.baload, 1) := by decide +kernel
theorem dX1_resize_131 : decode cX1_resize 131 = .ok (.ifCond .ne 12, 3) := by decide +kernel
theorem dX1_resize_134 : decode cX1_resize 134 = .ok (.aload_n 0, 1) := by decide +kernel
theorem dX1_resize_135 : decode cX1_resize 135 = .ok (.getfield 23, 3) := by decide +kernel
theorem dX1_resize_138 : decode cX1_resize 138 = .ok (.iload_n 1, 1) := by decide +kernel
theorem dX1_resize_139 : decode cX1_resize 139 = .ok (.baload, 1) := by decide +kernel
theorem dX1_resize_140 : decode cX1_resize 140 = .ok (.ifCond .eq 5, 3) := by decide +kernel
theorem dX1_resize_143 : decode cX1_resize 143 = .ok (.iconst 0, 1) := by decide +kernel
theorem dX1_resize_144 : decode cX1_resize 144 = .ok (.ireturn, 1) := by decide +kernel
theorem dX1_resize_145 : decode cX1_resize 145 = .ok (.aload_n 0, 1) := by decide +kernel
theorem dX1_resize_146 : decode cX1_resize 146 = .ok (.iload_n 2, 1) := by decide +kernel
theorem dX1_resize_147 : decode cX1_resize 147 = .ok (.iload_n 1, 1) := by decide +kernel
theorem dX1_resize_148 : decode cX1_resize 148 = .ok (.invokevirtual 73, 3) := by decide +kernel
theorem dX1_resize_151 : decode cX1_resize 151 = .ok (.istore 4, 2) := by decide +kernel
theorem dX1_resize_153 : decode cX1_resize 153 = .ok (.iload 4, 2) := by decide +kernel
theorem dX1_resize_155 : decode cX1_resize 155 = .ok (.ifCond .ge 5, 3) := by decide +kernel
theorem dX1_resize_158 : decode cX1_resize 158 = .ok (.iconst 0, 1) := by decide +kernel
theorem dX1_resize_159 : decode cX1_resize 159 = .ok (.ireturn, 1) := by decide +kernel
theorem dX1_resize_160 : decode cX1_resize 160 = .ok (.aload_n 0, 1) := by decide +kernel
theorem dX1_resize_161 : decode cX1_resize 161 = .ok (.getfield 13, 3) := by decide +kernel
theorem dX1_resize_164 : decode cX1_resize 164 = .ok (.iload_n 1, 1) := by decide +kernel
theorem dX1_resize_165 : decode cX1_resize 165 = .ok (.iload 4, 2) := by decide +kernel
theorem dX1_resize_167 : decode cX1_resize 167 = .ok (.iastore, 1) := by decide +kernel
theorem dX1_resize_168 : decode cX1_resize 168 = .ok (.aload_n 0, 1) := by decide +kernel
theorem dX1_resize_169 : decode cX1_resize 169 = .ok (.aload_n 0, 1) := by decide +kernel
theorem dX1_resize_170 : decode cX1_resize 170 = .ok (.getfield 51, 3) := by decide +kernel
theorem dX1_resize_173 : decode cX1_resize 173 = .ok (.iload_n 3, 1) := by decide +kernel
theorem dX1_resize_174 : decode cX1_resize 174 = .ok (.iadd, 1) := by decide +kernel
theorem dX1_resize_175 : decode cX1_resize 175 = .ok (.putfield 51, 3) := by decide +kernel
theorem dX1_resize_178 : decode cX1_resize 178 = .ok (.iload_n 3, 1) := by decide +kernel
theorem dX1_resize_179 : decode cX1_resize 179 = .ok (.istore 4, 2) := by decide +kernel
theorem dX1_resize_181 : decode cX1_resize 181 = .ok (.iload 4, 2) := by decide +kernel
theorem dX1_resize_183 : decode cX1_resize 183 = .ok (.iload_n 2, 1) := by decide +kernel
theorem dX1_resize_184 : decode cX1_resize 184 = .ok (.if_icmp .ge 23, 3) := by decide +kernel
theorem dX1_resize_187 : decode cX1_resize 187 = .ok (.aload_n 0, 1) := by decide +kernel
theorem dX1_resize_188 : decode cX1_resize 188 = .ok (.getfield 30, 3) := by decide +kernel
theorem dX1_resize_191 : decode cX1_resize 191 = .ok (.sipush 1024, 3) := by decide +kernel
theorem dX1_resize_194 : decode cX1_resize 194 = .ok (.iload_n 1, 1) := by decide +kernel
theorem dX1_resize_195 : decode cX1_resize 195 = .ok (.imul, 1) := by decide +kernel
theorem dX1_resize_196 : decode cX1_resize 196 = .ok (.iload 4, 2) := by decide +kernel
theorem dX1_resize_198 : decode cX1_resize 198 = .ok (.iadd, 1) := by decide +kernel
theorem dX1_resize_199 : decode cX1_resize 199 = .ok (.iconst 0, 1) := by decide +kernel
theorem dX1_resize_200 : decode cX1_resize 200 = .ok (.iastore, 1) := by decide +kernel
theorem dX1_resize_201 : decode cX1_resize 201 = .ok (.iinc 4 1, 3) := by decide +kernel
theorem dX1_resize_204 : decode cX1_resize 204 = .ok (.goto (-23), 3) := by decide +kernel
theorem dX1_resize_207 : decode cX1_resize 207 = .ok (.aload_n 0, 1) := by decide +kernel
theorem dX1_resize_208 : decode cX1_resize 208 = .ok (.getfield 17, 3) := by decide +kernel
theorem dX1_resize_211 : decode cX1_resize 211 = .ok (.iload_n 1, 1) := by decide +kernel
theorem dX1_resize_212 : decode cX1_resize 212 = .ok (.iload_n 2, 1) := by decide +kernel
theorem dX1_resize_213 : decode cX1_resize 213 = .ok (.iastore, 1) := by decide +kernel
theorem dX1_resize_214 : decode cX1_resize 214 = .ok (.iconst 1, 1) := by decide +kernel
theorem dX1_resize_215 : decode cX1_resize 215 = .ok (.ireturn, 1) := by decide +kernel
set_option maxRecDepth 20000 in
theorem ggX1_notThere_X1_notUsed : GoodIn wsX1_notThere wsX1_notUsed := goodIn_ca (goodIn_r _ [7, 8, 9, 10, 11, 12, 13, 14, 15, 16, 17, 18] (by decide +kernel) (by decide +kernel)) (goodIn_sub (fun _ h => List.mem_cons_of_mem _ (List.mem_append_right _ h)) (by decide +kernel))
set_option maxRecDepth 20000 in
theorem gX1_notThere_X1_notUsed : GoodIn wsX1_notThere (wsV RX1 81 RX1 yX1_notUsed wsX1_notUsed) := goodIn_app (goodIn_of _ (by decide +kernel)) ggX1_notThere_X1_notUsed
theorem dX1_notThere_0 : decode cX1_notThere 0 = .ok (.aload_n 0, 1) := by decide +kernel
theorem dX1_notThere_1 : decode cX1_notThere 1 = .ok (.aload_n 0, 1) := by decide +kernel
theorem dX1_notThere_2 : decode cX1_notThere 2 = .ok (.iload_n 1, 1) := by decide +kernel
theorem dX1_notThere_3 : decode cX1_notThere 3 = .ok (.invokevirtual 81, 3) := by decide +kernel
theorem dX1_notThere_6 : decode cX1_notThere 6 = .ok (.ifCond .eq 7, 3) := by decide +kernel
theorem dX1_notThere_9 : decode cX1_notThere 9 = .ok (.iconst 1, 1) := by decide +kernel
theorem dX1_notThere_10 : decode cX1_notThere 10 = .ok (.goto 17, 3) := by decide +kernel
theorem dX1_notThere_13 : decode cX1_notThere 13 = .ok (.aload_n 0, 1) := by decide +kernel
theorem dX1_notThere_14 : decode cX1_notThere 14 = .ok (.getfield 17, 3) := by decide +kernel
theorem dX1_notThere_17 : decode cX1_notThere 17 = .ok (.iload_n 1, 1) := by decide +kernel
theorem dX1_notThere_18 : decode cX1_notThere 18 = .ok (.iaload, 1) := by decide +kernel
theorem dX1_notThere_19 : decode cX1_notThere 19 = .ok (.ifCond .ne 7, 3) := by decide +kernel
theorem dX1_notThere_22 : decode cX1_notThere 22 = .ok (.iconst 2, 1) := by decide +kernel
theorem dX1_notThere_23 : decode cX1_notThere 23 = .ok (.goto 4, 3) := by decide +kernel
theorem dX1_notThere_26 : decode cX1_notThere 26 = .ok (.iconst 0, 1) := by decide +kernel
theorem dX1_notThere_27 : decode cX1_notThere 27 = .ok (.putfield 33, 3) := by decide +kernel
theorem dX1_notThere_30 : decode cX1_notThere 30 = .ok (.aload_n 0, 1) := by decide +kernel
theorem dX1_notThere_31 : decode cX1_notThere 31 = .ok (.getfield 33, 3) := by decide +kernel
theorem dX1_notThere_34 : decode cX1_notThere 34 = .ok (.ifCond .le 7, 3) := by decide +kernel
theorem dX1_notThere_37 : decode cX1_notThere 37 = .ok (.iconst 1, 1) := by decide +kernel
theorem dX1_notThere_38 : decode cX1_notThere 38 = .ok (.goto 4, 3) := by decide +kernel
theorem dX1_notThere_41 : decode cX1_notThere 41 = .ok (.iconst 0, 1) := by decide +kernel
theorem dX1_notThere_42 : decode cX1_notThere 42 = .ok (.ireturn, 1) := by decide +kernel
set_option maxRecDepth 20000 in
theorem ggX1_lock_X1_notThere : GoodIn wsX1_lock wsX1_notThere := goodIn_ca (goodIn_r _ [6, 7, 8, 9, 10, 11, 5, 12, 13, 14, 15, 16, 17, 18, 19, 20, 21, 22, 23] (by decide +kernel) (by decide +kernel)) (goodIn_sub (fun _ h => List.mem_cons_of_mem _ (List.mem_append_right _ h)) (by decide +kernel))
set_option maxRecDepth 20000 in
theorem gX1_lock_X1_notThere : GoodIn wsX1_lock (wsV RX1 84 RX1 yX1_notThere wsX1_notThere) := goodIn_app (goodIn_of _ (by decide +kernel)) ggX1_lock_X1_notThere
theorem dX1_lock_0 : decode cX1_lock 0 = .ok (.aload_n 0, 1) := by decide +kernel
theorem dX1_lock_1 : decode cX1_lock 1 = .ok (.iload_n 1, 1) := by decide +kernel
theorem dX1_lock_2 : decode cX1_lock 2 = .ok (.invokevirtual 84, 3) := by decide +kernel
theorem dX1_lock_5 : decode cX1_lock 5 = .ok (.ifCond .eq 5, 3) := by decide +kernel
theorem dX1_lock_8 : decode cX1_lock 8 = .ok (.iconst 0, 1) := by decide +kernel
theorem dX1_lock_9 : decode cX1_lock 9 = .ok (.ireturn, 1) := by decide +kernel
theorem dX1_lock_10 : decode cX1_lock 10 = .ok (.aload_n 0, 1) := by decide +kernel
theorem dX1_lock_11 : decode cX1_lock 11 = .ok (.getfield 23, 3) := by decide +kernel
theorem dX1_lock_14 : decode cX1_lock 14 = .ok (.iload_n 1, 1) := by decide +kernel
theorem dX1_lock_15 : decode cX1_lock 15 = .ok (.baload, 1) := by decide +kernel
theorem dX1_lock_16 : decode cX1_lock 16 = .ok (.istore_n 3, 1) := by decide +kernel
theorem dX1_lock_17 : decode cX1_lock 17 = .ok (.aload_n 0, 1) := by decide +kernel
theorem dX1_lock_18 : decode cX1_lock 18 = .ok (.getfield 23, 3) := by decide +kernel
theorem dX1_lock_21 : decode cX1_lock 21 = .ok (.iload_n 1, 1) := by decide +kernel
theorem dX1_lock_22 : decode cX1_lock 22 = .ok (.iload_n 2, 1) := by decide +kernel
theorem dX1_lock_23 : decode cX1_lock 23 = .ok (.bastore, 1) := by decide +kernel
theorem dX1_lock_24 : decode cX1_lock 24 = .ok (.iload_n 3, 1) := by decide +kernel
theorem dX1_lock_25 : decode cX1_lock 25 = .ok (.ireturn, 1) := by decide +kernel
set_option maxRecDepth 20000 in
theorem ggX1_losable_X1_notThere : GoodIn wsX1_losable wsX1_notThere := goodIn_ca (goodIn_r _ [6, 7, 8, 9, 10, 11, 5, 12, 13, 14, 15, 16, 17, 18, 19, 20, 21, 22, 23] (by decide +kernel) (by decide +kernel)) (goodIn_sub (fun _ h => List.mem_cons_of_mem _ (List.mem_append_right _ h)) (by decide +kernel))
set_option maxRecDepth 20000 in
theorem gX1_losable_X1_notThere : GoodIn wsX1_losable (wsV RX1 84 RX1 yX1_notThere wsX1_notThere) := goodIn_app (goodIn_of _ (by decide +kernel)) ggX1_losable_X1_notThere
theorem dX1_losable_0 : decode cX1_losable 0 = .ok (.aload_n 0, 1) := by decide +kernel
theorem dX1_losable_1 : decode cX1_losable 1 = .ok (.iload_n 1, 1) := by decide +kernel
theorem dX1_losable_2 : decode cX1_losable 2 = .ok (.invokevirtual 84, 3) := by decide +kernel
theorem dX1_losable_5 : decode cX1_losable 5 = .ok (.ifCond .eq 5, 3) := by decide +kernel
theorem dX1_losable_8 : decode cX1_losable 8 = .ok (.iconst 0, 1) := by decide +kernel
theorem dX1_losable_9 : decode cX1_losable 9 = .ok (.ireturn, 1) := by decide +kernel
theorem dX1_losable_10 : decode cX1_losable 10 = .ok (.aload_n 0, 1) := by decide +kernel
theorem dX1_losable_11 : decode cX1_losable 11 = .ok (.getfield 26, 3) := by decide +kernel
theorem dX1_losable_14 : decode cX1_losable 14 = .ok (.iload_n 1, 1) := by decide +kernel
end
section
theorem dX1_losable_15 : decode cX1_losable 15 = .ok (.baload, 1) := by decide +kernel
theorem dX1_losable_16 : decode cX1_losable 16 = .ok (.istore_n 3, 1) := by decide +kernel
theorem dX1_losable_17 : decode cX1_losable 17 = .ok (.aload_n 0, 1) := by decide +kernel
theorem dX1_losable_18 : decode cX1_losable 18 = .ok (.getfield 26, 3) := by decide +kernel
theorem dX1_losable_21 : decode cX1_losable 21 = .ok (.iload_n 1, 1) := by decide +kernel
theorem dX1_losable_22 : decode cX1_losable 22 = .ok (.iload_n 2, 1) := by decide +kernel
theorem dX1_losable_23 : decode cX1_losable 23 = .ok (.bastore, 1) := by decide +kernel
theorem dX1_losable_24 : decode cX1_losable 24 = .ok (.iload_n 3, 1) := by decide +kernel
theorem dX1_losable_25 : decode cX1_losable 25 = .ok (.ireturn, 1) := by decide +kernel
set_option maxRecDepth 20000 in
theorem ggX1_lose_X1_notThere : GoodIn wsX1_lose wsX1_notThere := goodIn_ca (goodIn_r _ [5, 6, 7, 8, 9, 10, 4, 11, 12, 28, 29, 30, 31, 32, 33, 34, 35, 36, 37] (by decide +kernel) (by decide +kernel)) (goodIn_sub (fun _ h => List.mem_cons_of_mem _ (List.mem_append_right _ h)) (by decide +kernel))
set_option maxRecDepth 20000 in
theorem gX1_lose_X1_notThere : GoodIn wsX1_lose (wsV RX1 84 RX1 yX1_notThere wsX1_notThere) := goodIn_app (goodIn_of _ (by decide +kernel)) ggX1_lose_X1_notThere
set_option maxRecDepth 20000 in
theorem ggX1_lose_X1_isMovable : GoodIn wsX1_lose wsX1_isMovable := goodIn_ca (goodIn_r _ [16, 17, 18, 19, 20, 21, 4, 22, 12, 6, 28, 29, 30, 31, 32, 33, 34, 35, 36, 37] (by decide +kernel) (by decide +kernel)) (goodIn_sub (fun _ h => List.mem_cons_of_mem _ (List.mem_append_right _ h)) (by decide +kernel))
set_option maxRecDepth 20000 in
theorem gX1_lose_X1_isMovable : GoodIn wsX1_lose (wsV RX1 48 RX1 yX1_isMovable wsX1_isMovable) := goodIn_app (goodIn_of _ (by decide +kernel)) ggX1_lose_X1_isMovable
set_option maxRecDepth 20000 in
theorem ggX1_lose_X1_loseOne : GoodIn wsX1_lose wsX1_loseOne := goodIn_ca (goodIn_r _ [26, 6, 27, 28, 29, 30, 31, 32, 33, 34, 35, 36, 37] (by decide +kernel) (by decide +kernel)) (goodIn_sub (fun _ h => List.mem_cons_of_mem _ (List.mem_append_right _ h)) (by decide +kernel))
set_option maxRecDepth 20000 in
theorem gX1_lose_X1_loseOne : GoodIn wsX1_lose (wsV RX1 66 RX1 yX1_loseOne wsX1_loseOne) := goodIn_app (goodIn_of _ (by decide +kernel)) ggX1_lose_X1_loseOne
theorem dX1_lose_0 : decode cX1_lose 0 = .ok (.aload_n 0, 1) := by decide +kernel
theorem dX1_lose_1 : decode cX1_lose 1 = .ok (.iload_n 1, 1) := by decide +kernel
theorem dX1_lose_2 : decode cX1_lose 2 = .ok (.invokevirtual 84, 3) := by decide +kernel
theorem dX1_lose_5 : decode cX1_lose 5 = .ok (.ifCond .ne 11, 3) := by decide +kernel
theorem dX1_lose_8 : decode cX1_lose 8 = .ok (.aload_n 0, 1) := by decide +kernel
theorem dX1_lose_9 : decode cX1_lose 9 = .ok (.iload_n 1, 1) := by decide +kernel
theorem dX1_lose_10 : decode cX1_lose 10 = .ok (.invokevirtual 48, 3) := by decide +kernel
theorem dX1_lose_13 : decode cX1_lose 13 = .ok (.ifCond .ne 5, 3) := by decide +kernel
theorem dX1_lose_16 : decode cX1_lose 16 = .ok (.iconst 0, 1) := by decide +kernel
theorem dX1_lose_17 : decode cX1_lose 17 = .ok (.ireturn, 1) := by decide +kernel
theorem dX1_lose_18 : decode cX1_lose 18 = .ok (.aload_n 0, 1) := by decide +kernel
theorem dX1_lose_19 : decode cX1_lose 19 = .ok (.iload_n 1, 1) := by decide +kernel
theorem dX1_lose_20 : decode cX1_lose 20 = .ok (.invokevirtual 66, 3) := by decide +kernel
theorem dX1_lose_23 : decode cX1_lose 23 = .ok (.iconst 1, 1) := by decide +kernel
theorem dX1_lose_24 : decode cX1_lose 24 = .ok (.ireturn, 1) := by decide +kernel
set_option maxRecDepth 20000 in
theorem ggX1_lift_X1_notUsed : GoodIn wsX1_lift wsX1_notUsed := goodIn_ca (goodIn_r _ [9, 10, 29, 30, 31, 32, 33, 34, 35, 36, 37, 38] (by decide +kernel) (by decide +kernel)) (goodIn_sub (fun _ h => List.mem_cons_of_mem _ (List.mem_append_right _ h)) (by decide +kernel))
set_option maxRecDepth 20000 in
theorem gX1_lift_X1_notUsed : GoodIn wsX1_lift (wsV RX1 81 RX1 yX1_notUsed wsX1_notUsed) := goodIn_app (goodIn_of _ (by decide +kernel)) ggX1_lift_X1_notUsed
set_option maxRecDepth 20000 in
theorem ggX1_lift_X1_isMovable : GoodIn wsX1_lift wsX1_isMovable := goodIn_ca (goodIn_r _ [14, 15, 16, 17, 18, 19, 8, 20, 10, 3, 29, 30, 31, 32, 33, 34, 35, 36, 37, 38] (by decide +kernel) (by decide +kernel)) (goodIn_sub (fun _ h => List.mem_cons_of_mem _ (List.mem_append_right _ h)) (by decide +kernel))
set_option maxRecDepth 20000 in
theorem gX1_lift_X1_isMovable : GoodIn wsX1_lift (wsV RX1 48 RX1 yX1_isMovable wsX1_isMovable) := goodIn_app (goodIn_of _ (by decide +kernel)) ggX1_lift_X1_isMovable
set_option maxRecDepth 20000 in
theorem ggX1_lift_X1_freeTo : GoodIn wsX1_lift wsX1_freeTo := goodIn_ca (goodIn_r _ [24, 2, 25, 26, 27, 8, 28, 17, 18, 19, 20, 10, 3, 29, 30, 31, 32, 33, 34, 35, 36, 37, 38] (by decide +kernel) (by decide +kernel)) (goodIn_sub (fun _ h => List.mem_cons_of_mem _ (List.mem_append_right _ h)) (by decide +kernel))
set_option maxRecDepth 20000 in
theorem gX1_lift_X1_freeTo : GoodIn wsX1_lift (wsV RX1 45 RX1 yX1_freeTo wsX1_freeTo) := goodIn_app (goodIn_of _ (by decide +kernel)) ggX1_lift_X1_freeTo
theorem dX1_lift_0 : decode cX1_lift 0 = .ok (.aload_n 0, 1) := by decide +kernel
theorem dX1_lift_1 : decode cX1_lift 1 = .ok (.aload_n 0, 1) := by decide +kernel
theorem dX1_lift_2 : decode cX1_lift 2 = .ok (.iload_n 1, 1) := by decide +kernel
theorem dX1_lift_3 : decode cX1_lift 3 = .ok (.invokevirtual 81, 3) := by decide +kernel
theorem dX1_lift_6 : decode cX1_lift 6 = .ok (.ifCond .eq 7, 3) := by decide +kernel
theorem dX1_lift_9 : decode cX1_lift 9 = .ok (.iconst 1, 1) := by decide +kernel
theorem dX1_lift_10 : decode cX1_lift 10 = .ok (.goto 16, 3) := by decide +kernel
theorem dX1_lift_13 : decode cX1_lift 13 = .ok (.aload_n 0, 1) := by decide +kernel
theorem dX1_lift_14 : decode cX1_lift 14 = .ok (.iload_n 1, 1) := by decide +kernel
theorem dX1_lift_15 : decode cX1_lift 15 = .ok (.invokevirtual 48, 3) := by decide +kernel
theorem dX1_lift_18 : decode cX1_lift 18 = .ok (.ifCond .ne 7, 3) := by decide +kernel
theorem dX1_lift_21 : decode cX1_lift 21 = .ok (.iconst 2, 1) := by decide +kernel
theorem dX1_lift_22 : decode cX1_lift 22 = .ok (.goto 4, 3) := by decide +kernel
theorem dX1_lift_25 : decode cX1_lift 25 = .ok (.iconst 0, 1) := by decide +kernel
theorem dX1_lift_26 : decode cX1_lift 26 = .ok (.putfield 33, 3) := by decide +kernel
theorem dX1_lift_29 : decode cX1_lift 29 = .ok (.aload_n 0, 1) := by decide +kernel
theorem dX1_lift_30 : decode cX1_lift 30 = .ok (.getfield 33, 3) := by decide +kernel
theorem dX1_lift_33 : decode cX1_lift 33 = .ok (.ifCond .le 5, 3) := by decide +kernel
theorem dX1_lift_36 : decode cX1_lift 36 = .ok (.iconst 0, 1) := by decide +kernel
theorem dX1_lift_37 : decode cX1_lift 37 = .ok (.ireturn, 1) := by decide +kernel
theorem dX1_lift_38 : decode cX1_lift 38 = .ok (.aload_n 0, 1) := by decide +kernel
theorem dX1_lift_39 : decode cX1_lift 39 = .ok (.getfield 13, 3) := by decide +kernel
theorem dX1_lift_42 : decode cX1_lift 42 = .ok (.iload_n 1, 1) := by decide +kernel
theorem dX1_lift_43 : decode cX1_lift 43 = .ok (.iaload, 1) := by decide +kernel
theorem dX1_lift_44 : decode cX1_lift 44 = .ok (.aload_n 0, 1) := by decide +kernel
theorem dX1_lift_45 : decode cX1_lift 45 = .ok (.getfield 17, 3) := by decide +kernel
theorem dX1_lift_48 : decode cX1_lift 48 = .ok (.iload_n 1, 1) := by decide +kernel
theorem dX1_lift_49 : decode cX1_lift 49 = .ok (.iaload, 1) := by decide +kernel
theorem dX1_lift_50 : decode cX1_lift 50 = .ok (.iadd, 1) := by decide +kernel
theorem dX1_lift_51 : decode cX1_lift 51 = .ok (.istore_n 2, 1) := by decide +kernel
theorem dX1_lift_52 : decode cX1_lift 52 = .ok (.aload_n 0, 1) := by decide +kernel
theorem dX1_lift_53 : decode cX1_lift 53 = .ok (.iload_n 2, 1) := by decide +kernel
theorem dX1_lift_54 : decode cX1_lift 54 = .ok (.invokevirtual 45, 3) := by decide +kernel
theorem dX1_lift_57 : decode cX1_lift 57 = .ok (.iload_n 2, 1) := by decide +kernel
theorem dX1_lift_58 : decode cX1_lift 58 = .ok (.isub, 1) := by decide +kernel
theorem dX1_lift_59 : decode cX1_lift 59 = .ok (.istore_n 3, 1) := by decide +kernel
theorem dX1_lift_60 : decode cX1_lift 60 = .ok (.aload_n 0, 1) := by decide +kernel
theorem dX1_lift_61 : decode cX1_lift 61 = .ok (.getfield 13, 3) := by decide +kernel
theorem dX1_lift_64 : decode cX1_lift 64 = .ok (.iload_n 1, 1) := by decide +kernel
theorem dX1_lift_65 : decode cX1_lift 65 = .ok (.aload_n 0, 1) := by decide +kernel
theorem dX1_lift_66 : decode cX1_lift 66 = .ok (.getfield 13, 3) := by decide +kernel
theorem dX1_lift_69 : decode cX1_lift 69 = .ok (.iload_n 1, 1) := by decide +kernel
theorem dX1_lift_70 : decode cX1_lift 70 = .ok (.iaload, 1) := by decide +kernel
theorem dX1_lift_71 : decode cX1_lift 71 = .ok (.iload_n 3, 1) := by decide +kernel
theorem dX1_lift_72 : decode cX1_lift 72 = .ok (.iadd, 1) := by decide +kernel
theorem dX1_lift_73 : decode cX1_lift 73 = .ok (.iastore, 1) := by decide +kernel
theorem dX1_lift_74 : decode cX1_lift 74 = .ok (.aload_n 0, 1) := by decide +kernel
theorem dX1_lift_75 : decode cX1_lift 75 = .ok (.iload_n 3, 1) := by decide +kernel
theorem dX1_lift_76 : decode cX1_lift 76 = .ok (.ifCond .le 17, 3) := by decide +kernel
theorem dX1_lift_79 : decode cX1_lift 79 = .ok (.aload_n 0, 1) := by decide +kernel
theorem dX1_lift_80 : decode cX1_lift 80 = .ok (.getfield 51, 3) := by decide +kernel
theorem dX1_lift_83 : decode cX1_lift 83 = .ok (.aload_n 0, 1) := by decide +kernel
theorem dX1_lift_84 : decode cX1_lift 84 = .ok (.getfield 17, 3) := by decide +kernel
theorem dX1_lift_87 : decode cX1_lift 87 = .ok (.iload_n 1, 1) := by decide +kernel
theorem dX1_lift_88 : decode cX1_lift 88 = .ok (.iaload, 1) := by decide +kernel
theorem dX1_lift_89 : decode cX1_lift 89 = .ok (.iadd, 1) := by decide +kernel
theorem dX1_lift_90 : decode cX1_lift 90 = .ok (.goto 7, 3) := by decide +kernel
theorem dX1_lift_93 : decode cX1_lift 93 = .ok (.aload_n 0, 1) := by decide +kernel
theorem dX1_lift_94 : decode cX1_lift 94 = .ok (.getfield 51, 3) := by decide +kernel
theorem dX1_lift_97 : decode cX1_lift 97 = .ok (.putfield 51, 3) := by decide +kernel
theorem dX1_lift_100 : decode cX1_lift 100 = .ok (.iload_n 3, 1) := by decide +kernel
theorem dX1_lift_101 : decode cX1_lift 101 = .ok (.ireturn, 1) := by decide +kernel
set_option maxRecDepth 20000 in
theorem ggX1_slide_X1_slideAll : GoodIn wsX1_slide wsX1_slideAll := goodIn_ca (goodIn_r _ [6, 7, 8, 9, 10, 11, 12, 5, 13, 14, 15, 16, 17, 18, 19, 20, 21, 22, 23, 24, 33, 34, 35, 36, 37, 38, 39, 40, 41, 42] (by decide +kernel) (by decide +kernel)) (goodIn_sub (fun _ h => List.mem_cons_of_mem _ (List.mem_append_right _ h)) (by decide +kernel))
set_option maxRecDepth 20000 in
theorem gX1_slide_X1_slideAll : GoodIn wsX1_slide (wsV RX1 60 RX1 yX1_slideAll wsX1_slideAll) := goodIn_app (goodIn_of _ (by decide +kernel)) ggX1_slide_X1_slideAll
set_option maxRecDepth 20000 in
theorem ggX1_slide_X1_greatest : GoodIn wsX1_slide wsX1_greatest := goodIn_ca (goodIn_r _ [28, 9, 29, 30, 31, 5, 32, 7, 10, 11, 12, 13, 14, 15, 16, 17, 18, 33, 34, 35, 36, 37, 38, 39, 40, 41, 42] (by decide +kernel) (by decide +kernel)) (goodIn_sub (fun _ h => List.mem_cons_of_mem _ (List.mem_append_right _ h)) (by decide +kernel))
set_option maxRecDepth 20000 in
theorem gX1_slide_X1_greatest : GoodIn wsX1_slide (wsV RX1 87 RX1 yX1_greatest wsX1_greatest) := goodIn_app (goodIn_of _ (by decide +kernel)) ggX1_slide_X1_greatest
theorem dX1_slide_0 : decode cX1_slide 0 = .ok (.aload_n 0, 1) := by decide +kernel
theorem dX1_slide_1 : decode cX1_slide 1 = .ok (.iconst 0, 1) := by decide +kernel
theorem dX1_slide_2 : decode cX1_slide 2 = .ok (.putfield 33, 3) := by decide +kernel
theorem dX1_slide_5 : decode cX1_slide 5 = .ok (.aload_n 0, 1) := by decide +kernel
theorem dX1_slide_6 : decode cX1_slide 6 = .ok (.invokevirtual 60, 3) := by decide +kernel
theorem dX1_slide_9 : decode cX1_slide 9 = .ok (.aload_n 0, 1) := by decide +kernel
theorem dX1_slide_10 : decode cX1_slide 10 = .ok (.invokevirtual 87, 3) := by decide +kernel
theorem dX1_slide_13 : decode cX1_slide 13 = .ok (.ireturn, 1) := by decide +kernel
set_option maxRecDepth 20000 in
theorem ggX1_clear_X1_greatest : GoodIn wsX1_clear wsX1_greatest := goodIn_ca (goodIn_r _ [6, 7, 8, 9, 10, 5, 11, 12, 13, 14, 15, 16, 17, 18, 19, 20, 21, 43, 44, 45, 46, 47, 48, 49, 50, 51, 52] (by decide +kernel) (by decide +kernel)) (goodIn_sub (fun _ h => List.mem_cons_of_mem _ (List.mem_append_right _ h)) (by decide +kernel))
set_option maxRecDepth 20000 in
theorem gX1_clear_X1_greatest : GoodIn wsX1_clear (wsV RX1 87 RX1 yX1_greatest wsX1_greatest) := goodIn_app (goodIn_of _ (by decide +kernel)) ggX1_clear_X1_greatest
set_option maxRecDepth 20000 in
theorem ggX1_clear_X1_firstToLose : GoodIn wsX1_clear wsX1_firstToLose := goodIn_ca (goodIn_r _ [25, 26, 12, 27, 28, 29, 5, 30, 31, 32, 17, 18, 19, 20, 21, 7, 43, 44, 45, 46, 47, 48, 49, 50, 51, 52] (by decide +kernel) (by decide +kernel)) (goodIn_sub (fun _ h => List.mem_cons_of_mem _ (List.mem_append_right _ h)) (by decide +kernel))
set_option maxRecDepth 20000 in
theorem gX1_clear_X1_firstToLose : GoodIn wsX1_clear (wsV RX1 63 RX1 yX1_firstToLose wsX1_firstToLose) := goodIn_app (goodIn_of _ (by decide +kernel)) ggX1_clear_X1_firstToLose
set_option maxRecDepth 20000 in
theorem ggX1_clear_X1_loseOne : GoodIn wsX1_clear wsX1_loseOne := goodIn_ca (goodIn_r _ [36, 7, 37, 43, 44, 45, 46, 47, 48, 49, 50, 51, 52] (by decide +kernel) (by decide +kernel)) (goodIn_sub (fun _ h => List.mem_cons_of_mem _ (List.mem_append_right _ h)) (by decide +kernel))
set_option maxRecDepth 20000 in
theorem gX1_clear_X1_loseOne : GoodIn wsX1_clear (wsV RX1 66 RX1 yX1_loseOne wsX1_loseOne) := goodIn_app (goodIn_of _ (by decide +kernel)) ggX1_clear_X1_loseOne
set_option maxRecDepth 20000 in
theorem ggX1_clear_X1_slideAll : GoodIn wsX1_clear wsX1_slideAll := goodIn_ca (goodIn_r _ [41, 12, 42, 7, 13, 14, 15, 5, 16, 17, 18, 19, 20, 21, 27, 28, 29, 30, 31, 32, 43, 44, 45, 46, 47, 48, 49, 50, 51, 52] (by decide +kernel) (by decide +kernel)) (goodIn_sub (fun _ h => List.mem_cons_of_mem _ (List.mem_append_right _ h)) (by decide +kernel))
set_option maxRecDepth 20000 in
theorem gX1_clear_X1_slideAll : GoodIn wsX1_clear (wsV RX1 60 RX1 yX1_slideAll wsX1_slideAll) := goodIn_app (goodIn_of _ (by decide +kernel)) ggX1_clear_X1_slideAll
theorem dX1_clear_0 : decode cX1_clear 0 = .ok (.aload_n 0, 1) := by decide +kernel
theorem dX1_clear_1 : decode cX1_clear 1 = .ok (.iload_n 1, 1) := by decide +kernel
theorem dX1_clear_2 : decode cX1_clear 2 = .ok (.ifCond .lt 10, 3) := by decide +kernel
theorem dX1_clear_5 : decode cX1_clear 5 = .ok (.iload_n 1, 1) := by decide +kernel
theorem dX1_clear_6 : decode cX1_clear 6 = .ok (.sipush 1024, 3) := by decide +kernel
theorem dX1_clear_9 : decode cX1_clear 9 = .ok (.if_icmp .le 7, 3) := by decide +kernel
theorem dX1_clear_12 : decode cX1_clear 12 = .ok (.iconst 1, 1) := by decide +kernel
theorem dX1_clear_13 : decode cX1_clear 13 = .ok (.goto 4, 3) := by decide +kernel
theorem dX1_clear_16 : decode cX1_clear 16 = .ok (.iconst 0, 1) := by decide +kernel
theorem dX1_clear_17 : decode cX1_clear 17 = .ok (.putfield 33, 3) := by decide +kernel
theorem dX1_clear_20 : decode cX1_clear 20 = .ok (.iconst 0, 1) := by decide +kernel
theorem dX1_clear_21 : decode cX1_clear 21 = .ok (.istore_n 2, 1) := by decide +kernel
theorem dX1_clear_22 : decode cX1_clear 22 = .ok (.aload_n 0, 1) := by decide +kernel
theorem dX1_clear_23 : decode cX1_clear 23 = .ok (.getfield 33, 3) := by decide +kernel
theorem dX1_clear_26 : decode cX1_clear 26 = .ok (.ifCond .ne 38, 3) := by decide +kernel
theorem dX1_clear_29 : decode cX1_clear 29 = .ok (.aload_n 0, 1) := by decide +kernel
theorem dX1_clear_30 : decode cX1_clear 30 = .ok (.invokevirtual 87, 3) := by decide +kernel
theorem dX1_clear_33 : decode cX1_clear 33 = .ok (.iload_n 1, 1) := by decide +kernel
theorem dX1_clear_34 : decode cX1_clear 34 = .ok (.if_icmp .ge 30, 3) := by decide +kernel
theorem dX1_clear_37 : decode cX1_clear 37 = .ok (.aload_n 0, 1) := by decide +kernel
theorem dX1_clear_38 : decode cX1_clear 38 = .ok (.iconst (-1), 1) := by decide +kernel
theorem dX1_clear_39 : decode cX1_clear 39 = .ok (.invokevirtual 63, 3) := by decide +kernel
theorem dX1_clear_42 : decode cX1_clear 42 = .ok (.ifCond .lt 22, 3) := by decide +kernel
theorem dX1_clear_45 : decode cX1_clear 45 = .ok (.aload_n 0, 1) := by decide +kernel
theorem dX1_clear_46 : decode cX1_clear 46 = .ok (.aload_n 0, 1) := by decide +kernel
theorem dX1_clear_47 : decode cX1_clear 47 = .ok (.iconst (-1), 1) := by decide +kernel
theorem dX1_clear_48 : decode cX1_clear 48 = .ok (.invokevirtual 63, 3) := by decide +kernel
theorem dX1_clear_51 : decode cX1_clear 51 = .ok (.invokevirtual 66, 3) := by decide +kernel
theorem dX1_clear_54 : decode cX1_clear 54 = .ok (.aload_n 0, 1) := by decide +kernel
theorem dX1_clear_55 : decode cX1_clear 55 = .ok (.invokevirtual 60, 3) := by decide +kernel
theorem dX1_clear_58 : decode cX1_clear 58 = .ok (.iinc 2 1, 3) := by decide +kernel
theorem dX1_clear_61 : decode cX1_clear 61 = .ok (.goto (-39), 3) := by decide +kernel
theorem dX1_clear_64 : decode cX1_clear 64 = .ok (.iload_n 2, 1) := by decide +kernel
theorem dX1_clear_65 : decode cX1_clear 65 = .ok (.ireturn, 1) := by decide +kernel
theorem dX1_where_0 : decode cX1_where 0 = .ok (.aload_n 0, 1) := by decide +kernel
theorem dX1_where_1 : decode cX1_where 1 = .ok (.iload_n 1, 1) := by decide +kernel
theorem dX1_where_2 : decode cX1_where 2 = .ok (.ifCond .lt 9, 3) := by decide +kernel
theorem dX1_where_5 : decode cX1_where 5 = .ok (.iload_n 1, 1) := by decide +kernel
theorem dX1_where_6 : decode cX1_where 6 = .ok (.bipush 48, 2) := by decide +kernel
theorem dX1_where_8 : decode cX1_where 8 = .ok (.if_icmp .lt 7, 3) := by decide +kernel
theorem dX1_where_11 : decode cX1_where 11 = .ok (.iconst 1, 1) := by decide +kernel
theorem dX1_where_12 : decode cX1_where 12 = .ok (.goto 4, 3) := by decide +kernel
theorem dX1_where_15 : decode cX1_where 15 = .ok (.iconst 0, 1) := by decide +kernel
theorem dX1_where_16 : decode cX1_where 16 = .ok (.putfield 33, 3) := by decide +kernel
theorem dX1_where_19 : decode cX1_where 19 = .ok (.aload_n 0, 1) := by decide +kernel
theorem dX1_where_20 : decode cX1_where 20 = .ok (.getfield 33, 3) := by decide +kernel
theorem dX1_where_23 : decode cX1_where 23 = .ok (.ifCond .le 5, 3) := by decide +kernel
theorem dX1_where_26 : decode cX1_where 26 = .ok (.iconst 0, 1) := by decide +kernel
theorem dX1_where_27 : decode cX1_where 27 = .ok (.ireturn, 1) := by decide +kernel
theorem dX1_where_28 : decode cX1_where 28 = .ok (.aload_n 0, 1) := by decide +kernel
theorem dX1_where_29 : decode cX1_where 29 = .ok (.getfield 7, 3) := by decide +kernel
theorem dX1_where_32 : decode cX1_where 32 = .ok (.iload_n 1, 1) := by decide +kernel
theorem dX1_where_33 : decode cX1_where 33 = .ok (.baload, 1) := by decide +kernel
theorem dX1_where_34 : decode cX1_where 34 = .ok (.ifCond .ne 7, 3) := by decide +kernel
theorem dX1_where_37 : decode cX1_where 37 = .ok (.iconst (-1), 1) := by decide +kernel
theorem dX1_where_38 : decode cX1_where 38 = .ok (.goto 23, 3) := by decide +kernel
theorem dX1_where_41 : decode cX1_where 41 = .ok (.aload_n 0, 1) := by decide +kernel
theorem dX1_where_42 : decode cX1_where 42 = .ok (.getfield 17, 3) := by decide +kernel
theorem dX1_where_45 : decode cX1_where 45 = .ok (.iload_n 1, 1) := by decide +kernel
theorem dX1_where_46 : decode cX1_where 46 = .ok (.iaload, 1) := by decide +kernel
theorem dX1_where_47 : decode cX1_where 47 = .ok (.ifCond .ne 8, 3) := by decide +kernel
theorem dX1_where_50 : decode cX1_where 50 = .ok (.bipush (-2), 2) := by decide +kernel
theorem dX1_where_52 : decode cX1_where 52 = .ok (.goto 9, 3) := by decide +kernel
theorem dX1_where_55 : decode cX1_where 55 = .ok (.aload_n 0, 1) := by decide +kernel
theorem dX1_where_56 : decode cX1_where 56 = .ok (.getfield 13, 3) := by decide +kernel
theorem dX1_where_59 : decode cX1_where 59 = .ok (.iload_n 1, 1) := by decide +kernel
theorem dX1_where_60 : decode cX1_where 60 = .ok (.iaload, 1) := by decide +kernel
theorem dX1_where_61 : decode cX1_where 61 = .ok (.ireturn, 1) := by decide +kernel
theorem dX1_size_0 : decode cX1_size 0 = .ok (.aload_n 0, 1) := by decide +kernel
theorem dX1_size_1 : decode cX1_size 1 = .ok (.iload_n 1, 1) := by decide +kernel
theorem dX1_size_2 : decode cX1_size 2 = .ok (.ifCond .lt 9, 3) := by decide +kernel
theorem dX1_size_5 : decode cX1_size 5 = .ok (.iload_n 1, 1) := by decide +kernel
theorem dX1_size_6 : decode cX1_size 6 = .ok (.bipush 48, 2) := by decide +kernel
theorem dX1_size_8 : decode cX1_size 8 = .ok (.if_icmp .lt 7, 3) := by decide +kernel
theorem dX1_size_11 : decode cX1_size 11 = .ok (.iconst 1, 1) := by decide +kernel
theorem dX1_size_12 : decode cX1_size 12 = .ok (.goto 4, 3) := by decide +kernel
theorem dX1_size_15 : decode cX1_size 15 = .ok (.iconst 0, 1) := by decide +kernel
theorem dX1_size_16 : decode cX1_size 16 = .ok (.putfield 33, 3) := by decide +kernel
theorem dX1_size_19 : decode cX1_size 19 = .ok (.aload_n 0, 1) := by decide +kernel
theorem dX1_size_20 : decode cX1_size 20 = .ok (.getfield 33, 3) := by decide +kernel
theorem dX1_size_23 : decode cX1_size 23 = .ok (.ifCond .le 7, 3) := by decide +kernel
theorem dX1_size_26 : decode cX1_size 26 = .ok (.iconst 0, 1) := by decide +kernel
theorem dX1_size_27 : decode cX1_size 27 = .ok (.goto 9, 3) := by decide +kernel
theorem dX1_size_30 : decode cX1_size 30 = .ok (.aload_n 0, 1) := by decide +kernel
theorem dX1_size_31 : decode cX1_size 31 = .ok (.getfield 17, 3) := by decide +kernel
theorem dX1_size_34 : decode cX1_size 34 = .ok (.iload_n 1, 1) := by decide +kernel
theorem dX1_size_35 : decode cX1_size 35 = .ok (.iaload, 1) := by decide +kernel
theorem dX1_size_36 : decode cX1_size 36 = .ok (.ireturn, 1) := by decide +kernel
set_option maxRecDepth 20000 in
theorem ggX1_put_X1_notUsed : GoodIn wsX1_put wsX1_notUsed := goodIn_ca (goodIn_r _ [8, 9, 10, 11, 12, 13, 14, 15, 16, 17, 18, 19] (by decide +kernel) (by decide +kernel)) (goodIn_sub (fun _ h => List.mem_cons_of_mem _ (List.mem_append_right _ h)) (by decide +kernel))
set_option maxRecDepth 20000 in
theorem gX1_put_X1_notUsed : GoodIn wsX1_put (wsV RX1 81 RX1 yX1_notUsed wsX1_notUsed) := goodIn_app (goodIn_of _ (by decide +kernel)) ggX1_put_X1_notUsed
theorem dX1_put_0 : decode cX1_put 0 = .ok (.aload_n 0, 1) := by decide +kernel
theorem dX1_put_1 : decode cX1_put 1 = .ok (.aload_n 0, 1) := by decide +kernel
theorem dX1_put_2 : decode cX1_put 2 = .ok (.iload_n 1, 1) := by decide +kernel
theorem dX1_put_3 : decode cX1_put 3 = .ok (.invokevirtual 81, 3) := by decide +kernel
theorem dX1_put_6 : decode cX1_put 6 = .ok (.ifCond .ne 14, 3) := by decide +kernel
theorem dX1_put_9 : decode cX1_put 9 = .ok (.iload_n 3, 1) := by decide +kernel
theorem dX1_put_10 : decode cX1_put 10 = .ok (.ifCond .lt 10, 3) := by decide +kernel
theorem dX1_put_13 : decode cX1_put 13 = .ok (.iload_n 3, 1) := by decide +kernel
theorem dX1_put_14 : decode cX1_put 14 = .ok (.sipush 255, 3) := by decide +kernel
theorem dX1_put_17 : decode cX1_put 17 = .ok (.if_icmp .le 7, 3) := by decide +kernel
theorem dX1_put_20 : decode cX1_put 20 = .ok (.iconst 1, 1) := by decide +kernel
theorem dX1_put_21 : decode cX1_put 21 = .ok (.goto 35, 3) := by decide +kernel
theorem dX1_put_24 : decode cX1_put 24 = .ok (.aload_n 0, 1) := by decide +kernel
theorem dX1_put_25 : decode cX1_put 25 = .ok (.getfield 17, 3) := by decide +kernel
theorem dX1_put_28 : decode cX1_put 28 = .ok (.iload_n 1, 1) := by decide +kernel
theorem dX1_put_29 : decode cX1_put 29 = .ok (.iaload, 1) := by decide +kernel
theorem dX1_put_30 : decode cX1_put 30 = .ok (.ifCond .ne 7, 3) := by decide +kernel
theorem dX1_put_33 : decode cX1_put 33 = .ok (.iconst 2, 1) := by decide +kernel
theorem dX1_put_34 : decode cX1_put 34 = .ok (.goto 22, 3) := by decide +kernel
theorem dX1_put_37 : decode cX1_put 37 = .ok (.iload_n 2, 1) := by decide +kernel
theorem dX1_put_38 : decode cX1_put 38 = .ok (.ifCond .lt 13, 3) := by decide +kernel
theorem dX1_put_41 : decode cX1_put 41 = .ok (.iload_n 2, 1) := by decide +kernel
theorem dX1_put_42 : decode cX1_put 42 = .ok (.aload_n 0, 1) := by decide +kernel
theorem dX1_put_43 : decode cX1_put 43 = .ok (.getfield 17, 3) := by decide +kernel
theorem dX1_put_46 : decode cX1_put 46 = .ok (.iload_n 1, 1) := by decide +kernel
theorem dX1_put_47 : decode cX1_put 47 = .ok (.iaload, 1) := by decide +kernel
theorem dX1_put_48 : decode cX1_put 48 = .ok (.if_icmp .lt 7, 3) := by decide +kernel
theorem dX1_put_51 : decode cX1_put 51 = .ok (.iconst 3, 1) := by decide +kernel
theorem dX1_put_52 : decode cX1_put 52 = .ok (.goto 4, 3) := by decide +kernel
theorem dX1_put_55 : decode cX1_put 55 = .ok (.iconst 0, 1) := by decide +kernel
theorem dX1_put_56 : decode cX1_put 56 = .ok (.putfield 33, 3) := by decide +kernel
theorem dX1_put_59 : decode cX1_put 59 = .ok (.aload_n 0, 1) := by decide +kernel
theorem dX1_put_60 : decode cX1_put 60 = .ok (.getfield 33, 3) := by decide +kernel
theorem dX1_put_63 : decode cX1_put 63 = .ok (.ifCond .le 5, 3) := by decide +kernel
theorem dX1_put_66 : decode cX1_put 66 = .ok (.iconst 0, 1) := by decide +kernel
theorem dX1_put_67 : decode cX1_put 67 = .ok (.ireturn, 1) := by decide +kernel
theorem dX1_put_68 : decode cX1_put 68 = .ok (.aload_n 0, 1) := by decide +kernel
theorem dX1_put_69 : decode cX1_put 69 = .ok (.getfield 30, 3) := by decide +kernel
theorem dX1_put_72 : decode cX1_put 72 = .ok (.sipush 1024, 3) := by decide +kernel
theorem dX1_put_75 : decode cX1_put 75 = .ok (.iload_n 1, 1) := by decide +kernel
theorem dX1_put_76 : decode cX1_put 76 = .ok (.imul, 1) := by decide +kernel
theorem dX1_put_77 : decode cX1_put 77 = .ok (.iload_n 2, 1) := by decide +kernel
theorem dX1_put_78 : decode cX1_put 78 = .ok (.iadd, 1) := by decide +kernel
theorem dX1_put_79 : decode cX1_put 79 = .ok (.iaload, 1) := by decide +kernel
theorem dX1_put_80 : decode cX1_put 80 = .ok (.istore 4, 2) := by decide +kernel
theorem dX1_put_82 : decode cX1_put 82 = .ok (.aload_n 0, 1) := by decide +kernel
theorem dX1_put_83 : decode cX1_put 83 = .ok (.getfield 30, 3) := by decide +kernel
theorem dX1_put_86 : decode cX1_put 86 = .ok (.sipush 1024, 3) := by decide +kernel
theorem dX1_put_89 : decode cX1_put 89 = .ok (.iload_n 1, 1) := by decide +kernel
theorem dX1_put_90 : decode cX1_put 90 = .ok (.imul, 1) := by decide +kernel
theorem dX1_put_91 : decode cX1_put 91 = .ok (.iload_n 2, 1) := by decide +kernel
theorem dX1_put_92 : decode cX1_put 92 = .ok (.iadd, 1) := by decide +kernel
theorem dX1_put_93 : decode cX1_put 93 = .ok (.iload_n 3, 1) := by decide +kernel
theorem dX1_put_94 : decode cX1_put 94 = .ok (.iastore, 1) := by decide +kernel
theorem dX1_put_95 : decode cX1_put 95 = .ok (.iload 4, 2) := by decide +kernel
theorem dX1_put_97 : decode cX1_put 97 = .ok (.ireturn, 1) := by decide +kernel
set_option maxRecDepth 20000 in
theorem ggX1_get_X1_notUsed : GoodIn wsX1_get wsX1_notUsed := goodIn_ca (goodIn_r _ [8, 9, 10, 11, 12, 13, 14, 15, 16, 17, 18, 19] (by decide +kernel) (by decide +kernel)) (goodIn_sub (fun _ h => List.mem_cons_of_mem _ (List.mem_append_right _ h)) (by decide +kernel))
set_option maxRecDepth 20000 in
theorem gX1_get_X1_notUsed : GoodIn wsX1_get (wsV RX1 81 RX1 yX1_notUsed wsX1_notUsed) := goodIn_app (goodIn_of _ (by decide +kernel)) ggX1_get_X1_notUsed
theorem dX1_get_0 : decode cX1_get 0 = .ok (.aload_n 0, 1) := by decide +kernel
theorem dX1_get_1 : decode cX1_get 1 = .ok (.aload_n 0, 1) := by decide +kernel
theorem dX1_get_2 : decode cX1_get 2 = .ok (.iload_n 1, 1) := by decide +kernel
theorem dX1_get_3 : decode cX1_get 3 = .ok (.invokevirtual 81, 3) := by decide +kernel
theorem dX1_get_6 : decode cX1_get 6 = .ok (.ifCond .eq 7, 3) := by decide +kernel
theorem dX1_get_9 : decode cX1_get 9 = .ok (.iconst 1, 1) := by decide +kernel
theorem dX1_get_10 : decode cX1_get 10 = .ok (.goto 35, 3) := by decide +kernel
theorem dX1_get_13 : decode cX1_get 13 = .ok (.aload_n 0, 1) := by decide +kernel
theorem dX1_get_14 : decode cX1_get 14 = .ok (.getfield 17, 3) := by decide +kernel
theorem dX1_get_17 : decode cX1_get 17 = .ok (.iload_n 1, 1) := by decide +kernel
theorem dX1_get_18 : decode cX1_get 18 = .ok (.iaload, 1) := by decide +kernel
theorem dX1_get_19 : decode cX1_get 19 = .ok (.ifCond .ne 7, 3) := by decide +kernel
theorem dX1_get_22 : decode cX1_get 22 = .ok (.iconst 2, 1) := by decide +kernel
theorem dX1_get_23 : decode cX1_get 23 = .ok (.goto 22, 3) := by decide +kernel
theorem dX1_get_26 : decode cX1_get 26 = .ok (.iload_n 2, 1) := by decide +kernel
theorem dX1_get_27 : decode cX1_get 27 = .ok (.ifCond .lt 13, 3) := by decide +kernel
theorem dX1_get_30 : decode cX1_get 30 = .ok (.iload_n 2, 1) := by decide +kernel
theorem dX1_get_31 : decode cX1_get 31 = .ok (.aload_n 0, 1) := by decide +kernel
theorem dX1_get_32 : decode cX1_get 32 = .ok (.getfield 17, 3) := by decide +kernel
theorem dX1_get_35 : decode cX1_get 35 = .ok (.iload_n 1, 1) := by decide +kernel
theorem dX1_get_36 : decode cX1_get 36 = .ok (.iaload, 1) := by decide +kernel
theorem dX1_get_37 : decode cX1_get 37 = .ok (.if_icmp .lt 7, 3) := by decide +kernel
theorem dX1_get_40 : decode cX1_get 40 = .ok (.iconst 3, 1) := by decide +kernel
theorem dX1_get_41 : decode cX1_get 41 = .ok (.goto 4, 3) := by decide +kernel
theorem dX1_get_44 : decode cX1_get 44 = .ok (.iconst 0, 1) := by decide +kernel
theorem dX1_get_45 : decode cX1_get 45 = .ok (.putfield 33, 3) := by decide +kernel
theorem dX1_get_48 : decode cX1_get 48 = .ok (.aload_n 0, 1) := by decide +kernel
theorem dX1_get_49 : decode cX1_get 49 = .ok (.getfield 33, 3) := by decide +kernel
theorem dX1_get_52 : decode cX1_get 52 = .ok (.ifCond .le 7, 3) := by decide +kernel
theorem dX1_get_55 : decode cX1_get 55 = .ok (.iconst 0, 1) := by decide +kernel
theorem dX1_get_56 : decode cX1_get 56 = .ok (.goto 15, 3) := by decide +kernel
theorem dX1_get_59 : decode cX1_get 59 = .ok (.aload_n 0, 1) := by decide +kernel
theorem dX1_get_60 : decode cX1_get 60 = .ok (.getfield 30, 3) := by decide +kernel
theorem dX1_get_63 : decode cX1_get 63 = .ok (.sipush 1024, 3) := by decide +kernel
theorem dX1_get_66 : decode cX1_get 66 = .ok (.iload_n 1, 1) := by decide +kernel
theorem dX1_get_67 : decode cX1_get 67 = .ok (.imul, 1) := by decide +kernel
theorem dX1_get_68 : decode cX1_get 68 = .ok (.iload_n 2, 1) := by decide +kernel
theorem dX1_get_69 : decode cX1_get 69 = .ok (.iadd, 1) := by decide +kernel
theorem dX1_get_70 : decode cX1_get 70 = .ok (.iaload, 1) := by decide +kernel
theorem dX1_get_71 : decode cX1_get 71 = .ok (.ireturn, 1) := by decide +kernel
set_option maxRecDepth 20000 in
theorem ggX1_owner_X1_has : GoodIn wsX1_owner wsX1_has := goodIn_ca (goodIn_r _ [8, 9, 3, 10, 11, 12, 13, 14, 15, 16, 17, 18, 19] (by decide +kernel) (by decide +kernel)) (goodIn_sub (fun _ h => List.mem_cons_of_mem _ (List.mem_append_right _ h)) (by decide +kernel))
set_option maxRecDepth 20000 in
theorem gX1_owner_X1_has : GoodIn wsX1_owner (wsV RX1 37 RX1 yX1_has wsX1_has) := goodIn_app (goodIn_of _ (by decide +kernel)) ggX1_owner_X1_has
theorem dX1_owner_0 : decode cX1_owner 0 = .ok (.aload_n 0, 1) := by decide +kernel
theorem dX1_owner_1 : decode cX1_owner 1 = .ok (.iload_n 1, 1) := by decide +kernel
theorem dX1_owner_2 : decode cX1_owner 2 = .ok (.ifCond .lt 10, 3) := by decide +kernel
theorem dX1_owner_5 : decode cX1_owner 5 = .ok (.iload_n 1, 1) := by decide +kernel
theorem dX1_owner_6 : decode cX1_owner 6 = .ok (.sipush 1024, 3) := by decide +kernel
theorem dX1_owner_9 : decode cX1_owner 9 = .ok (.if_icmp .lt 7, 3) := by decide +kernel
theorem dX1_owner_12 : decode cX1_owner 12 = .ok (.iconst 1, 1) := by decide +kernel
theorem dX1_owner_13 : decode cX1_owner 13 = .ok (.goto 4, 3) := by decide +kernel
theorem dX1_owner_16 : decode cX1_owner 16 = .ok (.iconst 0, 1) := by decide +kernel
theorem dX1_owner_17 : decode cX1_owner 17 = .ok (.putfield 33, 3) := by decide +kernel
theorem dX1_owner_20 : decode cX1_owner 20 = .ok (.iconst 0, 1) := by decide +kernel
theorem dX1_owner_21 : decode cX1_owner 21 = .ok (.istore_n 2, 1) := by decide +kernel
theorem dX1_owner_22 : decode cX1_owner 22 = .ok (.iload_n 2, 1) := by decide +kernel
theorem dX1_owner_23 : decode cX1_owner 23 = .ok (.bipush 48, 2) := by decide +kernel
theorem dX1_owner_25 : decode cX1_owner 25 = .ok (.if_icmp .ge 53, 3) := by decide +kernel
theorem dX1_owner_28 : decode cX1_owner 28 = .ok (.aload_n 0, 1) := by decide +kernel
theorem dX1_owner_29 : decode cX1_owner 29 = .ok (.getfield 33, 3) := by decide +kernel
theorem dX1_owner_32 : decode cX1_owner 32 = .ok (.ifCond .ne 46, 3) := by decide +kernel
theorem dX1_owner_35 : decode cX1_owner 35 = .ok (.aload_n 0, 1) := by decide +kernel
theorem dX1_owner_36 : decode cX1_owner 36 = .ok (.iload_n 2, 1) := by decide +kernel
theorem dX1_owner_37 : decode cX1_owner 37 = .ok (.invokevirtual 37, 3) := by decide +kernel
theorem dX1_owner_40 : decode cX1_owner 40 = .ok (.ifCond .eq 32, 3) := by decide +kernel
theorem dX1_owner_43 : decode cX1_owner 43 = .ok (.iload_n 1, 1) := by decide +kernel
theorem dX1_owner_44 : decode cX1_owner 44 = .ok (.aload_n 0, 1) := by decide +kernel
theorem dX1_owner_45 : decode cX1_owner 45 = .ok (.getfield 13, 3) := by decide +kernel
theorem dX1_owner_48 : decode cX1_owner 48 = .ok (.iload_n 2, 1) := by decide +kernel
theorem dX1_owner_49 : decode cX1_owner 49 = .ok (.iaload, 1) := by decide +kernel
theorem dX1_owner_50 : decode cX1_owner 50 = .ok (.if_icmp .lt 22, 3) := by decide +kernel
theorem dX1_owner_53 : decode cX1_owner 53 = .ok (.iload_n 1, 1) := by decide +kernel
theorem dX1_owner_54 : decode cX1_owner 54 = .ok (.aload_n 0, 1) := by decide +kernel
theorem dX1_owner_55 : decode cX1_owner 55 = .ok (.getfield 13, 3) := by decide +kernel
theorem dX1_owner_58 : decode cX1_owner 58 = .ok (.iload_n 2, 1) := by decide +kernel
theorem dX1_owner_59 : decode cX1_owner 59 = .ok (.iaload, 1) := by decide +kernel
theorem dX1_owner_60 : decode cX1_owner 60 = .ok (.aload_n 0, 1) := by decide +kernel
theorem dX1_owner_61 : decode cX1_owner 61 = .ok (.getfield 17, 3) := by decide +kernel
theorem dX1_owner_64 : decode cX1_owner 64 = .ok (.iload_n 2, 1) := by decide +kernel
theorem dX1_owner_65 : decode cX1_owner 65 = .ok (.iaload, 1) := by decide +kernel
theorem dX1_owner_66 : decode cX1_owner 66 = .ok (.iadd, 1) := by decide +kernel
theorem dX1_owner_67 : decode cX1_owner 67 = .ok (.if_icmp .ge 5, 3) := by decide +kernel
theorem dX1_owner_70 : decode cX1_owner 70 = .ok (.iload_n 2, 1) := by decide +kernel
theorem dX1_owner_71 : decode cX1_owner 71 = .ok (.ireturn, 1) := by decide +kernel
theorem dX1_owner_72 : decode cX1_owner 72 = .ok (.iinc 2 1, 3) := by decide +kernel
theorem dX1_owner_75 : decode cX1_owner 75 = .ok (.goto (-53), 3) := by decide +kernel
theorem dX1_owner_78 : decode cX1_owner 78 = .ok (.aload_n 0, 1) := by decide +kernel
theorem dX1_owner_79 : decode cX1_owner 79 = .ok (.getfield 33, 3) := by decide +kernel
theorem dX1_owner_82 : decode cX1_owner 82 = .ok (.ifCond .le 7, 3) := by decide +kernel
theorem dX1_owner_85 : decode cX1_owner 85 = .ok (.iconst 0, 1) := by decide +kernel
theorem dX1_owner_86 : decode cX1_owner 86 = .ok (.goto 4, 3) := by decide +kernel
theorem dX1_owner_89 : decode cX1_owner 89 = .ok (.iconst (-1), 1) := by decide +kernel
theorem dX1_owner_90 : decode cX1_owner 90 = .ok (.ireturn, 1) := by decide +kernel
set_option maxRecDepth 20000 in
theorem ggX1_free_X1_freeTo : GoodIn wsX1_free wsX1_freeTo := goodIn_ca (goodIn_r _ [6, 7, 8, 9, 10, 5, 11, 12, 13, 14, 15, 16, 1, 17, 18, 19, 20, 21, 22, 23, 24, 25, 26] (by decide +kernel) (by decide +kernel)) (goodIn_sub (fun _ h => List.mem_cons_of_mem _ (List.mem_append_right _ h)) (by decide +kernel))
set_option maxRecDepth 20000 in
theorem gX1_free_X1_freeTo : GoodIn wsX1_free (wsV RX1 45 RX1 yX1_freeTo wsX1_freeTo) := goodIn_app (goodIn_of _ (by decide +kernel)) ggX1_free_X1_freeTo
set_option maxRecDepth 20000 in
theorem ggX1_free_X1_firstFrom : GoodIn wsX1_free wsX1_firstFrom := goodIn_ca (goodIn_r _ [11, 7, 12, 13, 14, 5, 15, 16, 1, 17, 18, 19, 20, 21, 22, 23, 24, 25, 26] (by decide +kernel) (by decide +kernel)) (goodIn_sub (fun _ h => List.mem_cons_of_mem _ (List.mem_append_right _ h)) (by decide +kernel))
set_option maxRecDepth 20000 in
theorem gX1_free_X1_firstFrom : GoodIn wsX1_free (wsV RX1 41 RX1 yX1_firstFrom wsX1_firstFrom) := goodIn_app (goodIn_of _ (by decide +kernel)) ggX1_free_X1_firstFrom
theorem dX1_free_0 : decode cX1_free 0 = .ok (.iconst 0, 1) := by decide +kernel
theorem dX1_free_1 : decode cX1_free 1 = .ok (.istore_n 2, 1) := by decide +kernel
theorem dX1_free_2 : decode cX1_free 2 = .ok (.iconst 0, 1) := by decide +kernel
theorem dX1_free_3 : decode cX1_free 3 = .ok (.istore_n 3, 1) := by decide +kernel
theorem dX1_free_4 : decode cX1_free 4 = .ok (.iload_n 3, 1) := by decide +kernel
theorem dX1_free_5 : decode cX1_free 5 = .ok (.sipush 1024, 3) := by decide +kernel
theorem dX1_free_8 : decode cX1_free 8 = .ok (.if_icmp .ge 69, 3) := by decide +kernel
theorem dX1_free_11 : decode cX1_free 11 = .ok (.aload_n 0, 1) := by decide +kernel
theorem dX1_free_12 : decode cX1_free 12 = .ok (.iload_n 3, 1) := by decide +kernel
theorem dX1_free_13 : decode cX1_free 13 = .ok (.invokevirtual 45, 3) := by decide +kernel
theorem dX1_free_16 : decode cX1_free 16 = .ok (.istore 4, 2) := by decide +kernel
theorem dX1_free_18 : decode cX1_free 18 = .ok (.iload 4, 2) := by decide +kernel
theorem dX1_free_20 : decode cX1_free 20 = .ok (.iload_n 3, 1) := by decide +kernel
theorem dX1_free_21 : decode cX1_free 21 = .ok (.if_icmp .le 22, 3) := by decide +kernel
theorem dX1_free_24 : decode cX1_free 24 = .ok (.iload_n 1, 1) := by decide +kernel
theorem dX1_free_25 : decode cX1_free 25 = .ok (.ifCond .eq 9, 3) := by decide +kernel
theorem dX1_free_28 : decode cX1_free 28 = .ok (.iload_n 2, 1) := by decide +kernel
theorem dX1_free_29 : decode cX1_free 29 = .ok (.iconst 1, 1) := by decide +kernel
theorem dX1_free_30 : decode cX1_free 30 = .ok (.iadd, 1) := by decide +kernel
theorem dX1_free_31 : decode cX1_free 31 = .ok (.goto 13, 3) := by decide +kernel
theorem dX1_free_34 : decode cX1_free 34 = .ok (.iload_n 2, 1) := by decide +kernel
theorem dX1_free_35 : decode cX1_free 35 = .ok (.iload 4, 2) := by decide +kernel
theorem dX1_free_37 : decode cX1_free 37 = .ok (.iadd, 1) := by decide +kernel
theorem dX1_free_38 : decode cX1_free 38 = .ok (.iload_n 3, 1) := by decide +kernel
theorem dX1_free_39 : decode cX1_free 39 = .ok (.isub, 1) := by decide +kernel
theorem dX1_free_40 : decode cX1_free 40 = .ok (.goto 4, 3) := by decide +kernel
theorem dX1_free_43 : decode cX1_free 43 = .ok (.iload_n 2, 1) := by decide +kernel
theorem dX1_free_44 : decode cX1_free 44 = .ok (.istore_n 2, 1) := by decide +kernel
theorem dX1_free_45 : decode cX1_free 45 = .ok (.iload 4, 2) := by decide +kernel
theorem dX1_free_47 : decode cX1_free 47 = .ok (.sipush 1024, 3) := by decide +kernel
theorem dX1_free_50 : decode cX1_free 50 = .ok (.if_icmp .ne 9, 3) := by decide +kernel
theorem dX1_free_53 : decode cX1_free 53 = .ok (.sipush 1024, 3) := by decide +kernel
theorem dX1_free_56 : decode cX1_free 56 = .ok (.goto 17, 3) := by decide +kernel
theorem dX1_free_59 : decode cX1_free 59 = .ok (.iload 4, 2) := by decide +kernel
theorem dX1_free_61 : decode cX1_free 61 = .ok (.aload_n 0, 1) := by decide +kernel
theorem dX1_free_62 : decode cX1_free 62 = .ok (.getfield 17, 3) := by decide +kernel
theorem dX1_free_65 : decode cX1_free 65 = .ok (.aload_n 0, 1) := by decide +kernel
theorem dX1_free_66 : decode cX1_free 66 = .ok (.iload 4, 2) := by decide +kernel
theorem dX1_free_68 : decode cX1_free 68 = .ok (.invokevirtual 41, 3) := by decide +kernel
theorem dX1_free_71 : decode cX1_free 71 = .ok (.iaload, 1) := by decide +kernel
theorem dX1_free_72 : decode cX1_free 72 = .ok (.iadd, 1) := by decide +kernel
theorem dX1_free_73 : decode cX1_free 73 = .ok (.istore_n 3, 1) := by decide +kernel
theorem dX1_free_74 : decode cX1_free 74 = .ok (.goto (-70), 3) := by decide +kernel
theorem dX1_free_77 : decode cX1_free 77 = .ok (.iload_n 2, 1) := by decide +kernel
theorem dX1_free_78 : decode cX1_free 78 = .ok (.ireturn, 1) := by decide +kernel
set_option maxRecDepth 20000 in
theorem ggX1_told_X1_free : GoodIn wsX1_told wsX1_free := goodIn_ca (goodIn_r _ [10, 3, 11, 12, 13, 9, 14, 15, 16, 17, 18, 19, 20, 21, 22, 23, 2, 28, 29, 30, 31, 32, 33, 34, 35, 36, 37] (by decide +kernel) (by decide +kernel)) (goodIn_sub (fun _ h => List.mem_cons_of_mem _ (List.mem_append_right _ h)) (by decide +kernel))
set_option maxRecDepth 20000 in
theorem gX1_told_X1_free : GoodIn wsX1_told (wsV RX1 91 RX1 yX1_free wsX1_free) := goodIn_app (goodIn_of _ (by decide +kernel)) ggX1_told_X1_free
set_option maxRecDepth 20000 in
theorem ggX1_told_X1_greatest : GoodIn wsX1_told wsX1_greatest := goodIn_ca (goodIn_r _ [27, 3, 11, 12, 13, 9, 14, 15, 16, 17, 18, 19, 20, 21, 22, 23, 2, 28, 29, 30, 31, 32, 33, 34, 35, 36, 37] (by decide +kernel) (by decide +kernel)) (goodIn_sub (fun _ h => List.mem_cons_of_mem _ (List.mem_append_right _ h)) (by decide +kernel))
set_option maxRecDepth 20000 in
theorem gX1_told_X1_greatest : GoodIn wsX1_told (wsV RX1 87 RX1 yX1_greatest wsX1_greatest) := goodIn_app (goodIn_of _ (by decide +kernel)) ggX1_told_X1_greatest
theorem dX1_told_0 : decode cX1_told 0 = .ok (.aload_n 0, 1) := by decide +kernel
theorem dX1_told_1 : decode cX1_told 1 = .ok (.iload_n 1, 1) := by decide +kernel
theorem dX1_told_2 : decode cX1_told 2 = .ok (.ifCond .lt 9, 3) := by decide +kernel
theorem dX1_told_5 : decode cX1_told 5 = .ok (.iload_n 1, 1) := by decide +kernel
theorem dX1_told_6 : decode cX1_told 6 = .ok (.bipush 6, 2) := by decide +kernel
theorem dX1_told_8 : decode cX1_told 8 = .ok (.if_icmp .le 7, 3) := by decide +kernel
theorem dX1_told_11 : decode cX1_told 11 = .ok (.iconst 1, 1) := by decide +kernel
theorem dX1_told_12 : decode cX1_told 12 = .ok (.goto 4, 3) := by decide +kernel
theorem dX1_told_15 : decode cX1_told 15 = .ok (.iconst 0, 1) := by decide +kernel
theorem dX1_told_16 : decode cX1_told 16 = .ok (.putfield 33, 3) := by decide +kernel
theorem dX1_told_19 : decode cX1_told 19 = .ok (.aload_n 0, 1) := by decide +kernel
theorem dX1_told_20 : decode cX1_told 20 = .ok (.getfield 33, 3) := by decide +kernel
theorem dX1_told_23 : decode cX1_told 23 = .ok (.ifCond .le 5, 3) := by decide +kernel
theorem dX1_told_26 : decode cX1_told 26 = .ok (.iconst 0, 1) := by decide +kernel
theorem dX1_told_27 : decode cX1_told 27 = .ok (.ireturn, 1) := by decide +kernel
theorem dX1_told_28 : decode cX1_told 28 = .ok (.iconst 0, 1) := by decide +kernel
theorem dX1_told_29 : decode cX1_told 29 = .ok (.istore_n 2, 1) := by decide +kernel
theorem dX1_told_30 : decode cX1_told 30 = .ok (.iconst 0, 1) := by decide +kernel
theorem dX1_told_31 : decode cX1_told 31 = .ok (.istore_n 3, 1) := by decide +kernel
theorem dX1_told_32 : decode cX1_told 32 = .ok (.iload_n 3, 1) := by decide +kernel
theorem dX1_told_33 : decode cX1_told 33 = .ok (.bipush 48, 2) := by decide +kernel
theorem dX1_told_35 : decode cX1_told 35 = .ok (.if_icmp .ge 45, 3) := by decide +kernel
theorem dX1_told_38 : decode cX1_told 38 = .ok (.aload_n 0, 1) := by decide +kernel
theorem dX1_told_39 : decode cX1_told 39 = .ok (.getfield 7, 3) := by decide +kernel
theorem dX1_told_42 : decode cX1_told 42 = .ok (.iload_n 3, 1) := by decide +kernel
theorem dX1_told_43 : decode cX1_told 43 = .ok (.baload, 1) := by decide +kernel
theorem dX1_told_44 : decode cX1_told 44 = .ok (.ifCond .eq 28, 3) := by decide +kernel
theorem dX1_told_47 : decode cX1_told 47 = .ok (.iload_n 1, 1) := by decide +kernel
theorem dX1_told_48 : decode cX1_told 48 = .ok (.iconst 3, 1) := by decide +kernel
theorem dX1_told_49 : decode cX1_told 49 = .ok (.if_icmp .eq 17, 3) := by decide +kernel
theorem dX1_told_52 : decode cX1_told 52 = .ok (.iload_n 1, 1) := by decide +kernel
theorem dX1_told_53 : decode cX1_told 53 = .ok (.iconst 4, 1) := by decide +kernel
theorem dX1_told_54 : decode cX1_told 54 = .ok (.if_icmp .ne 18, 3) := by decide +kernel
theorem dX1_told_57 : decode cX1_told 57 = .ok (.aload_n 0, 1) := by decide +kernel
theorem dX1_told_58 : decode cX1_told 58 = .ok (.getfield 17, 3) := by decide +kernel
theorem dX1_told_61 : decode cX1_told 61 = .ok (.iload_n 3, 1) := by decide +kernel
theorem dX1_told_62 : decode cX1_told 62 = .ok (.iaload, 1) := by decide +kernel
theorem dX1_told_63 : decode cX1_told 63 = .ok (.ifCond .ne 9, 3) := by decide +kernel
theorem dX1_told_66 : decode cX1_told 66 = .ok (.iload_n 2, 1) := by decide +kernel
theorem dX1_told_67 : decode cX1_told 67 = .ok (.iconst 1, 1) := by decide +kernel
theorem dX1_told_68 : decode cX1_told 68 = .ok (.iadd, 1) := by decide +kernel
theorem dX1_told_69 : decode cX1_told 69 = .ok (.goto 4, 3) := by decide +kernel
theorem dX1_told_72 : decode cX1_told 72 = .ok (.iload_n 2, 1) := by decide +kernel
theorem dX1_told_73 : decode cX1_told 73 = .ok (.istore_n 2, 1) := by decide +kernel
theorem dX1_told_74 : decode cX1_told 74 = .ok (.iinc 3 1, 3) := by decide +kernel
theorem dX1_told_77 : decode cX1_told 77 = .ok (.goto (-45), 3) := by decide +kernel
theorem dX1_told_80 : decode cX1_told 80 = .ok (.iload_n 1, 1) := by decide +kernel
theorem dX1_told_81 : decode cX1_told 81 = .ok (.ifCond .ne 11, 3) := by decide +kernel
theorem dX1_told_84 : decode cX1_told 84 = .ok (.aload_n 0, 1) := by decide +kernel
theorem dX1_told_85 : decode cX1_told 85 = .ok (.iconst 0, 1) := by decide +kernel
theorem dX1_told_86 : decode cX1_told 86 = .ok (.invokevirtual 91, 3) := by decide +kernel
theorem dX1_told_89 : decode cX1_told 89 = .ok (.goto 53, 3) := by decide +kernel
theorem dX1_told_92 : decode cX1_told 92 = .ok (.iload_n 1, 1) := by decide +kernel
theorem dX1_told_93 : decode cX1_told 93 = .ok (.iconst 1, 1) := by decide +kernel
theorem dX1_told_94 : decode cX1_told 94 = .ok (.if_icmp .ne 10, 3) := by decide +kernel
theorem dX1_told_97 : decode cX1_told 97 = .ok (.aload_n 0, 1) := by decide +kernel
theorem dX1_told_98 : decode cX1_told 98 = .ok (.invokevirtual 87, 3) := by decide +kernel
theorem dX1_told_101 : decode cX1_told 101 = .ok (.goto 41, 3) := by decide +kernel
theorem dX1_told_104 : decode cX1_told 104 = .ok (.iload_n 1, 1) := by decide +kernel
theorem dX1_told_105 : decode cX1_told 105 = .ok (.iconst 2, 1) := by decide +kernel
theorem dX1_told_106 : decode cX1_told 106 = .ok (.if_icmp .ne 11, 3) := by decide +kernel
theorem dX1_told_109 : decode cX1_told 109 = .ok (.aload_n 0, 1) := by decide +kernel
theorem dX1_told_110 : decode cX1_told 110 = .ok (.iconst 1, 1) := by decide +kernel
theorem dX1_told_111 : decode cX1_told 111 = .ok (.invokevirtual 91, 3) := by decide +kernel
theorem dX1_told_114 : decode cX1_told 114 = .ok (.goto 28, 3) := by decide +kernel
theorem dX1_told_117 : decode cX1_told 117 = .ok (.iload_n 1, 1) := by decide +kernel
theorem dX1_told_118 : decode cX1_told 118 = .ok (.iconst 5, 1) := by decide +kernel
theorem dX1_told_119 : decode cX1_told 119 = .ok (.if_icmp .ge 7, 3) := by decide +kernel
theorem dX1_told_122 : decode cX1_told 122 = .ok (.iload_n 2, 1) := by decide +kernel
theorem dX1_told_123 : decode cX1_told 123 = .ok (.goto 19, 3) := by decide +kernel
theorem dX1_told_126 : decode cX1_told 126 = .ok (.iload_n 1, 1) := by decide +kernel
theorem dX1_told_127 : decode cX1_told 127 = .ok (.iconst 5, 1) := by decide +kernel
theorem dX1_told_128 : decode cX1_told 128 = .ok (.if_icmp .ne 10, 3) := by decide +kernel
theorem dX1_told_131 : decode cX1_told 131 = .ok (.aload_n 0, 1) := by decide +kernel
theorem dX1_told_132 : decode cX1_told 132 = .ok (.getfield 51, 3) := by decide +kernel
theorem dX1_told_135 : decode cX1_told 135 = .ok (.goto 7, 3) := by decide +kernel
theorem dX1_told_138 : decode cX1_told 138 = .ok (.aload_n 0, 1) := by decide +kernel
theorem dX1_told_139 : decode cX1_told 139 = .ok (.getfield 54, 3) := by decide +kernel
theorem dX1_told_142 : decode cX1_told 142 = .ok (.ireturn, 1) := by decide +kernel
end
section
set_option maxRecDepth 20000 in
theorem ggJx00060_init_d00df_J4_init_da8c8 : GoodIn wsJx00060_init_d00df wsJ4_init_da8c8 := goodIn_r _ [6, 7, 8, 9, 10, 11, 12, 13, 14, 15, 16, 17, 18, 19, 20, 21, 22, 23, 24, 25, 236, 237, 238, 239] (by decide +kernel) (by decide +kernel)
set_option maxRecDepth 20000 in
theorem gJx00060_init_d00df_J4_init_da8c8 : GoodIn wsJx00060_init_d00df (wsJ4_init_da8c8) := ggJx00060_init_d00df_J4_init_da8c8
set_option maxRecDepth 20000 in
theorem ggJx00060_init_d00df_J4_append_15ec4 : GoodIn wsJx00060_init_d00df wsJ4_append_15ec4 := goodIn_r _ [29, 30, 31, 32, 33, 9, 34, 35, 36, 37, 38, 39, 40, 16, 41, 42, 43, 44, 45, 17, 46, 47, 48, 49, 50, 51, 52, 53, 54, 55, 56, 57, 58, 59, 60, 61, 62, 63, 64, 65, 66, 67, 68, 69, 70, 71, 72, 73, 15, 74, 75, 76, 77, 78, 79, 80, 81, 82, 83, 84, 85, 14, 86, 87, 20, 88, 89, 90, 91, 92, 93, 94, 95, 96, 97, 98, 99, 100, 101, 102, 103, 104, 105, 106, 107, 108, 109, 110, 111, 112, 113, 114, 115, 116, 117, 118, 119, 120, 121, 122, 123, 124, 125, 126, 127, 128, 129, 130, 131, 132, 133, 134, 135, 136, 18, 19, 21, 22, 23, 24, 25, 137, 138, 139, 140, 141, 142, 143, 144, 145, 146, 147, 148, 149, 150, 151, 152, 153, 154, 155, 156, 157, 158, 236, 237, 238, 239, 240, 241, 242, 243] (by decide +kernel) (by decide +kernel)
set_option maxRecDepth 20000 in
theorem gJx00060_init_d00df_J4_append_15ec4 : GoodIn wsJx00060_init_d00df (wsV RJx00060 15 RJ4 yJ4_append_15ec4 wsJ4_append_15ec4) := goodIn_app (goodIn_of _ (by decide +kernel)) ggJx00060_init_d00df_J4_append_15ec4
set_option maxRecDepth 20000 in
theorem ggJx00060_init_d00df_J4_append_bf812 : GoodIn wsJx00060_init_d00df wsJ4_append_bf812 := goodIn_r _ [162, 163, 164, 32, 165, 9, 166, 35, 16, 167, 168, 169, 170, 41, 42, 43, 44, 45, 17, 46, 47, 48, 49, 50, 51, 52, 53, 54, 55, 56, 57, 58, 59, 60, 61, 62, 63, 64, 65, 66, 67, 68, 69, 70, 71, 72, 73, 15, 74, 75, 76, 77, 78, 79, 80, 81, 82, 83, 84, 85, 14, 171, 172, 173, 174, 175, 176, 177, 20, 178, 89, 90, 91, 92, 93, 94, 95, 96, 97, 98, 99, 100, 101, 102, 103, 104, 179, 180, 181, 182, 183, 105, 106, 107, 108, 109, 236, 237, 238, 239] (by decide +kernel) (by decide +kernel)
set_option maxRecDepth 20000 in
theorem gJx00060_init_d00df_J4_append_bf812 : GoodIn wsJx00060_init_d00df (wsV RJx00060 19 RJ4 yJ4_append_bf812 wsJ4_append_bf812) := goodIn_app (goodIn_of _ (by decide +kernel)) ggJx00060_init_d00df_J4_append_bf812
set_option maxRecDepth 20000 in
theorem ggJx00060_init_d00df_J4_toString_0e30d : GoodIn wsJx00060_init_d00df wsJ4_toString_0e30d := goodIn_r _ [187, 188, 189, 98, 190, 191, 192, 193, 194, 195, 196, 12, 13, 120, 114, 119, 197, 198, 199, 200, 201, 9, 202, 16, 203, 204, 205, 206, 207, 3, 208, 209, 32, 210, 211, 35, 212, 82, 83, 84, 85, 14, 17, 213, 214, 66, 215, 68, 69, 70, 71, 72, 73, 216, 217, 218, 15, 74, 75, 58, 76, 77, 78, 79, 80, 219, 220, 221, 222, 2, 223, 224, 20, 225, 226, 227, 228, 144, 145, 146, 93, 94, 95, 147, 148, 149, 100, 150, 151, 103, 152, 229, 230, 231, 89, 108, 109, 22, 23, 24, 25, 232, 233, 234, 235, 240, 241, 242, 243, 236, 237, 238, 239] (by decide +kernel) (by decide +kernel)
set_option maxRecDepth 20000 in
theorem gJx00060_init_d00df_J4_toString_0e30d : GoodIn wsJx00060_init_d00df (wsV RJx00060 22 RJ4 yJ4_toString_0e30d wsJ4_toString_0e30d) := goodIn_app (goodIn_of _ (by decide +kernel)) ggJx00060_init_d00df_J4_toString_0e30d
theorem dJx00060_init_d00df_0 : decode cJx00060_init_d00df 0 = .ok (.aload_n 0, 1) := by decide +kernel
theorem dJx00060_init_d00df_1 : decode cJx00060_init_d00df 1 = .ok (.new 10, 3) := by decide +kernel
theorem dJx00060_init_d00df_4 : decode cJx00060_init_d00df 4 = .ok (.dup, 1) := by decide +kernel
theorem dJx00060_init_d00df_5 : decode cJx00060_init_d00df 5 = .ok (.invokespecial 12, 3) := by decide +kernel
theorem dJx00060_init_d00df_8 : decode cJx00060_init_d00df 8 = .ok (.ldc 13, 2) := by decide +kernel
theorem dJx00060_init_d00df_10 : decode cJx00060_init_d00df 10 = .ok (.invokevirtual 15, 3) := by decide +kernel
theorem dJx00060_init_d00df_13 : decode cJx00060_init_d00df 13 = .ok (.iload_n 1, 1) := by decide +kernel
theorem dJx00060_init_d00df_14 : decode cJx00060_init_d00df 14 = .ok (.invokevirtual 19, 3) := by decide +kernel
theorem dJx00060_init_d00df_17 : decode cJx00060_init_d00df 17 = .ok (.invokevirtual 22, 3) := by decide +kernel
theorem dJx00060_init_d00df_20 : decode cJx00060_init_d00df 20 = .ok (.invokespecial 7, 3) := by decide +kernel
theorem dJx00060_init_d00df_23 : decode cJx00060_init_d00df 23 = .ok (.return_, 1) := by decide +kernel
end
section
theorem dJ9_max_7cf53_0 : decode cJ9_max_7cf53 0 = .ok (.iload_n 0, 1) := by decide +kernel
theorem dJ9_max_7cf53_1 : decode cJ9_max_7cf53 1 = .ok (.iload_n 1, 1) := by decide +kernel
theorem dJ9_max_7cf53_2 : decode cJ9_max_7cf53 2 = .ok (.if_icmp .lt 7, 3) := by decide +kernel
theorem dJ9_max_7cf53_5 : decode cJ9_max_7cf53 5 = .ok (.iload_n 0, 1) := by decide +kernel
theorem dJ9_max_7cf53_6 : decode cJ9_max_7cf53 6 = .ok (.goto 4, 3) := by decide +kernel
theorem dJ9_max_7cf53_9 : decode cJ9_max_7cf53 9 = .ok (.iload_n 1, 1) := by decide +kernel
theorem dJ9_max_7cf53_10 : decode cJ9_max_7cf53 10 = .ok (.ireturn, 1) := by decide +kernel
theorem dJ9_min_7cf53_0 : decode cJ9_min_7cf53 0 = .ok (.iload_n 0, 1) := by decide +kernel
theorem dJ9_min_7cf53_1 : decode cJ9_min_7cf53 1 = .ok (.iload_n 1, 1) := by decide +kernel
theorem dJ9_min_7cf53_2 : decode cJ9_min_7cf53 2 = .ok (.if_icmp .gt 7, 3) := by decide +kernel
theorem dJ9_min_7cf53_5 : decode cJ9_min_7cf53 5 = .ok (.iload_n 0, 1) := by decide +kernel
theorem dJ9_min_7cf53_6 : decode cJ9_min_7cf53 6 = .ok (.goto 4, 3) := by decide +kernel
theorem dJ9_min_7cf53_9 : decode cJ9_min_7cf53 9 = .ok (.iload_n 1, 1) := by decide +kernel
theorem dJ9_min_7cf53_10 : decode cJ9_min_7cf53 10 = .ok (.ireturn, 1) := by decide +kernel
end
section
theorem dJ7_rangeCheck_23922_0 : decode cJ7_rangeCheck_23922 0 = .ok (.iload_n 1, 1) := by decide +kernel
theorem dJ7_rangeCheck_23922_1 : decode cJ7_rangeCheck_23922 1 = .ok (.iload_n 2, 1) := by decide +kernel
theorem dJ7_rangeCheck_23922_2 : decode cJ7_rangeCheck_23922 2 = .ok (.if_icmp .le 44, 3) := by decide +kernel
theorem dJ7_rangeCheck_23922_5 : decode cJ7_rangeCheck_23922 5 = .ok (.new 43, 3) := by decide +kernel
theorem dJ7_rangeCheck_23922_8 : decode cJ7_rangeCheck_23922 8 = .ok (.dup, 1) := by decide +kernel
theorem dJ7_rangeCheck_23922_9 : decode cJ7_rangeCheck_23922 9 = .ok (.new 45, 3) := by decide +kernel
theorem dJ7_rangeCheck_23922_12 : decode cJ7_rangeCheck_23922 12 = .ok (.dup, 1) := by decide +kernel
theorem dJ7_rangeCheck_23922_13 : decode cJ7_rangeCheck_23922 13 = .ok (.invokespecial 47, 3) := by decide +kernel
theorem dJ7_rangeCheck_23922_16 : decode cJ7_rangeCheck_23922 16 = .ok (.ldc 48, 2) := by decide +kernel
theorem dJ7_rangeCheck_23922_18 : decode cJ7_rangeCheck_23922 18 = .ok (.invokevirtual 50, 3) := by decide +kernel
theorem dJ7_rangeCheck_23922_21 : decode cJ7_rangeCheck_23922 21 = .ok (.iload_n 1, 1) := by decide +kernel
theorem dJ7_rangeCheck_23922_22 : decode cJ7_rangeCheck_23922 22 = .ok (.invokevirtual 54, 3) := by decide +kernel
theorem dJ7_rangeCheck_23922_25 : decode cJ7_rangeCheck_23922 25 = .ok (.ldc 57, 2) := by decide +kernel
theorem dJ7_rangeCheck_23922_27 : decode cJ7_rangeCheck_23922 27 = .ok (.invokevirtual 50, 3) := by decide +kernel
theorem dJ7_rangeCheck_23922_30 : decode cJ7_rangeCheck_23922 30 = .ok (.iload_n 2, 1) := by decide +kernel
theorem dJ7_rangeCheck_23922_31 : decode cJ7_rangeCheck_23922 31 = .ok (.invokevirtual 54, 3) := by decide +kernel
theorem dJ7_rangeCheck_23922_34 : decode cJ7_rangeCheck_23922 34 = .ok (.ldc 59, 2) := by decide +kernel
theorem dJ7_rangeCheck_23922_36 : decode cJ7_rangeCheck_23922 36 = .ok (.invokevirtual 50, 3) := by decide +kernel
theorem dJ7_rangeCheck_23922_39 : decode cJ7_rangeCheck_23922 39 = .ok (.invokevirtual 61, 3) := by decide +kernel
theorem dJ7_rangeCheck_23922_42 : decode cJ7_rangeCheck_23922 42 = .ok (.invokespecial 65, 3) := by decide +kernel
theorem dJ7_rangeCheck_23922_45 : decode cJ7_rangeCheck_23922 45 = .ok (.athrow, 1) := by decide +kernel
theorem dJ7_rangeCheck_23922_46 : decode cJ7_rangeCheck_23922 46 = .ok (.iload_n 1, 1) := by decide +kernel
theorem dJ7_rangeCheck_23922_47 : decode cJ7_rangeCheck_23922 47 = .ok (.ifCond .ge 12, 3) := by decide +kernel
theorem dJ7_rangeCheck_23922_50 : decode cJ7_rangeCheck_23922 50 = .ok (.new 68, 3) := by decide +kernel
theorem dJ7_rangeCheck_23922_53 : decode cJ7_rangeCheck_23922 53 = .ok (.dup, 1) := by decide +kernel
theorem dJ7_rangeCheck_23922_54 : decode cJ7_rangeCheck_23922 54 = .ok (.iload_n 1, 1) := by decide +kernel
theorem dJ7_rangeCheck_23922_55 : decode cJ7_rangeCheck_23922 55 = .ok (.invokespecial 70, 3) := by decide +kernel
theorem dJ7_rangeCheck_23922_58 : decode cJ7_rangeCheck_23922 58 = .ok (.athrow, 1) := by decide +kernel
theorem dJ7_rangeCheck_23922_59 : decode cJ7_rangeCheck_23922 59 = .ok (.iload_n 2, 1) := by decide +kernel
theorem dJ7_rangeCheck_23922_60 : decode cJ7_rangeCheck_23922 60 = .ok (.iload_n 0, 1) := by decide +kernel
theorem dJ7_rangeCheck_23922_61 : decode cJ7_rangeCheck_23922 61 = .ok (.if_icmp .le 12, 3) := by decide +kernel
theorem dJ7_rangeCheck_23922_64 : decode cJ7_rangeCheck_23922 64 = .ok (.new 68, 3) := by decide +kernel
theorem dJ7_rangeCheck_23922_67 : decode cJ7_rangeCheck_23922 67 = .ok (.dup, 1) := by decide +kernel
theorem dJ7_rangeCheck_23922_68 : decode cJ7_rangeCheck_23922 68 = .ok (.iload_n 2, 1) := by decide +kernel
theorem dJ7_rangeCheck_23922_69 : decode cJ7_rangeCheck_23922 69 = .ok (.invokespecial 70, 3) := by decide +kernel
theorem dJ7_rangeCheck_23922_72 : decode cJ7_rangeCheck_23922 72 = .ok (.athrow, 1) := by decide +kernel
theorem dJ7_rangeCheck_23922_73 : decode cJ7_rangeCheck_23922 73 = .ok (.return_, 1) := by decide +kernel
theorem dJ7_fill_53178_0 : decode cJ7_fill_53178 0 = .ok (.iconst 0, 1) := by decide +kernel
theorem dJ7_fill_53178_1 : decode cJ7_fill_53178 1 = .ok (.istore_n 2, 1) := by decide +kernel
theorem dJ7_fill_53178_2 : decode cJ7_fill_53178 2 = .ok (.aload_n 0, 1) := by decide +kernel
theorem dJ7_fill_53178_3 : decode cJ7_fill_53178 3 = .ok (.arraylength, 1) := by decide +kernel
theorem dJ7_fill_53178_4 : decode cJ7_fill_53178 4 = .ok (.istore_n 3, 1) := by decide +kernel
theorem dJ7_fill_53178_5 : decode cJ7_fill_53178 5 = .ok (.iload_n 2, 1) := by decide +kernel
theorem dJ7_fill_53178_6 : decode cJ7_fill_53178 6 = .ok (.iload_n 3, 1) := by decide +kernel
theorem dJ7_fill_53178_7 : decode cJ7_fill_53178 7 = .ok (.if_icmp .ge 13, 3) := by decide +kernel
theorem dJ7_fill_53178_10 : decode cJ7_fill_53178 10 = .ok (.aload_n 0, 1) := by decide +kernel
theorem dJ7_fill_53178_11 : decode cJ7_fill_53178 11 = .ok (.iload_n 2, 1) := by decide +kernel
theorem dJ7_fill_53178_12 : decode cJ7_fill_53178 12 = .ok (.iload_n 1, 1) := by decide +kernel
theorem dJ7_fill_53178_13 : decode cJ7_fill_53178 13 = .ok (.iastore, 1) := by decide +kernel
theorem dJ7_fill_53178_14 : decode cJ7_fill_53178 14 = .ok (.iinc 2 1, 3) := by decide +kernel
theorem dJ7_fill_53178_17 : decode cJ7_fill_53178 17 = .ok (.goto (-12), 3) := by decide +kernel
theorem dJ7_fill_53178_20 : decode cJ7_fill_53178 20 = .ok (.return_, 1) := by decide +kernel
set_option maxRecDepth 20000 in
theorem ggJ7_fill_fda19_J7_rangeCheck_23922 : GoodIn wsJ7_fill_fda19 wsJ7_rangeCheck_23922 := goodIn_r _ [4, 5, 6, 7, 8, 9, 10, 11, 12, 13, 14, 15, 16, 17, 18, 19, 20] (by decide +kernel) (by decide +kernel)
set_option maxRecDepth 20000 in
theorem gJ7_fill_fda19_J7_rangeCheck_23922 : GoodIn wsJ7_fill_fda19 (va_wsS RJ7 13 yJ7_rangeCheck_23922 wsJ7_rangeCheck_23922) := goodIn_app (goodIn_of _ (by decide +kernel)) ggJ7_fill_fda19_J7_rangeCheck_23922
theorem dJ7_fill_fda19_0 : decode cJ7_fill_fda19 0 = .ok (.aload_n 0, 1) := by decide +kernel
theorem dJ7_fill_fda19_1 : decode cJ7_fill_fda19 1 = .ok (.arraylength, 1) := by decide +kernel
theorem dJ7_fill_fda19_2 : decode cJ7_fill_fda19 2 = .ok (.iload_n 1, 1) := by decide +kernel
theorem dJ7_fill_fda19_3 : decode cJ7_fill_fda19 3 = .ok (.iload_n 2, 1) := by decide +kernel
theorem dJ7_fill_fda19_4 : decode cJ7_fill_fda19 4 = .ok (.invokestatic 13, 3) := by decide +kernel
theorem dJ7_fill_fda19_7 : decode cJ7_fill_fda19 7 = .ok (.iload_n 1, 1) := by decide +kernel
theorem dJ7_fill_fda19_8 : decode cJ7_fill_fda19 8 = .ok (.istore 4, 2) := by decide +kernel
theorem dJ7_fill_fda19_10 : decode cJ7_fill_fda19 10 = .ok (.iload 4, 2) := by decide +kernel
theorem dJ7_fill_fda19_12 : decode cJ7_fill_fda19 12 = .ok (.iload_n 2, 1) := by decide +kernel
theorem dJ7_fill_fda19_13 : decode cJ7_fill_fda19 13 = .ok (.if_icmp .ge 14, 3) := by decide +kernel
theorem dJ7_fill_fda19_16 : decode cJ7_fill_fda19 16 = .ok (.aload_n 0, 1) := by decide +kernel
theorem dJ7_fill_fda19_17 : decode cJ7_fill_fda19 17 = .ok (.iload 4, 2) := by decide +kernel
theorem dJ7_fill_fda19_19 : decode cJ7_fill_fda19 19 = .ok (.iload_n 3, 1) := by decide +kernel
theorem dJ7_fill_fda19_20 : decode cJ7_fill_fda19 20 = .ok (.iastore, 1) := by decide +kernel
theorem dJ7_fill_fda19_21 : decode cJ7_fill_fda19 21 = .ok (.iinc 4 1, 3) := by decide +kernel
theorem dJ7_fill_fda19_24 : decode cJ7_fill_fda19 24 = .ok (.goto (-14), 3) := by decide +kernel
theorem dJ7_fill_fda19_27 : decode cJ7_fill_fda19 27 = .ok (.return_, 1) := by decide +kernel
theorem dJ7_copyOf_9075b_0 : decode cJ7_copyOf_9075b 0 = .ok (.iload_n 1, 1) := by decide +kernel
theorem dJ7_copyOf_9075b_1 : decode cJ7_copyOf_9075b 1 = .ok (.aload_n 0, 1) := by decide +kernel
theorem dJ7_copyOf_9075b_2 : decode cJ7_copyOf_9075b 2 = .ok (.arraylength, 1) := by decide +kernel
theorem dJ7_copyOf_9075b_3 : decode cJ7_copyOf_9075b 3 = .ok (.if_icmp .ne 11, 3) := by decide +kernel
theorem dJ7_copyOf_9075b_6 : decode cJ7_copyOf_9075b 6 = .ok (.aload_n 0, 1) := by decide +kernel
theorem dJ7_copyOf_9075b_7 : decode cJ7_copyOf_9075b 7 = .ok (.invokevirtual 310, 3) := by decide +kernel
theorem dJ7_copyOf_9075b_10 : decode cJ7_copyOf_9075b 10 = .ok (.checkcast 311, 3) := by decide +kernel
theorem dJ7_copyOf_9075b_13 : decode cJ7_copyOf_9075b 13 = .ok (.areturn, 1) := by decide +kernel
theorem dJ7_copyOf_9075b_14 : decode cJ7_copyOf_9075b 14 = .ok (.iload_n 1, 1) := by decide +kernel
theorem dJ7_copyOf_9075b_15 : decode cJ7_copyOf_9075b 15 = .ok (.newarray .byte, 2) := by decide +kernel
theorem dJ7_copyOf_9075b_17 : decode cJ7_copyOf_9075b 17 = .ok (.astore_n 2, 1) := by decide +kernel
theorem dJ7_copyOf_9075b_18 : decode cJ7_copyOf_9075b 18 = .ok (.aload_n 0, 1) := by decide +kernel
theorem dJ7_copyOf_9075b_19 : decode cJ7_copyOf_9075b 19 = .ok (.iconst 0, 1) := by decide +kernel
theorem dJ7_copyOf_9075b_20 : decode cJ7_copyOf_9075b 20 = .ok (.aload_n 2, 1) := by decide +kernel
theorem dJ7_copyOf_9075b_21 : decode cJ7_copyOf_9075b 21 = .ok (.iconst 0, 1) := by decide +kernel
theorem dJ7_copyOf_9075b_22 : decode cJ7_copyOf_9075b 22 = .ok (.aload_n 0, 1) := by decide +kernel
theorem dJ7_copyOf_9075b_23 : decode cJ7_copyOf_9075b 23 = .ok (.arraylength, 1) := by decide +kernel
theorem dJ7_copyOf_9075b_24 : decode cJ7_copyOf_9075b 24 = .ok (.iload_n 1, 1) := by decide +kernel
theorem dJ7_copyOf_9075b_25 : decode cJ7_copyOf_9075b 25 = .ok (.invokestatic 304, 3) := by decide +kernel
theorem dJ7_copyOf_9075b_28 : decode cJ7_copyOf_9075b 28 = .ok (.invokestatic 150, 3) := by decide +kernel
theorem dJ7_copyOf_9075b_31 : decode cJ7_copyOf_9075b 31 = .ok (.aload_n 2, 1) := by decide +kernel
theorem dJ7_copyOf_9075b_32 : decode cJ7_copyOf_9075b 32 = .ok (.areturn, 1) := by decide +kernel
theorem dJ7_checkLength_df160_0 : decode cJ7_checkLength_df160 0 = .ok (.iload_n 1, 1) := by decide +kernel
theorem dJ7_checkLength_df160_1 : decode cJ7_checkLength_df160 1 = .ok (.iload_n 0, 1) := by decide +kernel
theorem dJ7_checkLength_df160_2 : decode cJ7_checkLength_df160 2 = .ok (.if_icmp .ge 35, 3) := by decide +kernel
theorem dJ7_checkLength_df160_5 : decode cJ7_checkLength_df160 5 = .ok (.new 43, 3) := by decide +kernel
theorem dJ7_checkLength_df160_8 : decode cJ7_checkLength_df160 8 = .ok (.dup, 1) := by decide +kernel
theorem dJ7_checkLength_df160_9 : decode cJ7_checkLength_df160 9 = .ok (.new 45, 3) := by decide +kernel
theorem dJ7_checkLength_df160_12 : decode cJ7_checkLength_df160 12 = .ok (.dup, 1) := by decide +kernel
theorem dJ7_checkLength_df160_13 : decode cJ7_checkLength_df160 13 = .ok (.invokespecial 47, 3) := by decide +kernel
theorem dJ7_checkLength_df160_16 : decode cJ7_checkLength_df160 16 = .ok (.iload_n 0, 1) := by decide +kernel
theorem dJ7_checkLength_df160_17 : decode cJ7_checkLength_df160 17 = .ok (.invokevirtual 54, 3) := by decide +kernel
theorem dJ7_checkLength_df160_20 : decode cJ7_checkLength_df160 20 = .ok (.ldc_w 337, 3) := by decide +kernel
theorem dJ7_checkLength_df160_23 : decode cJ7_checkLength_df160 23 = .ok (.invokevirtual 50, 3) := by decide +kernel
theorem dJ7_checkLength_df160_26 : decode cJ7_checkLength_df160 26 = .ok (.iload_n 1, 1) := by decide +kernel
theorem dJ7_checkLength_df160_27 : decode cJ7_checkLength_df160 27 = .ok (.invokevirtual 54, 3) := by decide +kernel
theorem dJ7_checkLength_df160_30 : decode cJ7_checkLength_df160 30 = .ok (.invokevirtual 61, 3) := by decide +kernel
theorem dJ7_checkLength_df160_33 : decode cJ7_checkLength_df160 33 = .ok (.invokespecial 65, 3) := by decide +kernel
theorem dJ7_checkLength_df160_36 : decode cJ7_checkLength_df160 36 = .ok (.athrow, 1) := by decide +kernel
theorem dJ7_checkLength_df160_37 : decode cJ7_checkLength_df160 37 = .ok (.return_, 1) := by decide +kernel
set_option maxRecDepth 20000 in
theorem ggJ7_copyOfRange_39247_J7_copyOfRangeByte_39247 : GoodIn wsJ7_copyOfRange_39247 wsJ7_copyOfRangeByte_39247 := goodIn_r _ [10, 11, 12, 13, 14, 15, 16, 17, 18, 19, 20, 21, 9, 22, 23, 24, 25, 26, 27, 28, 29] (by decide +kernel) (by decide +kernel)
set_option maxRecDepth 20000 in
theorem gJ7_copyOfRange_39247_J7_copyOfRangeByte_39247 : GoodIn wsJ7_copyOfRange_39247 (va_wsS RJ7 339 yJ7_copyOfRangeByte_39247 wsJ7_copyOfRangeByte_39247) := goodIn_app (goodIn_of _ (by decide +kernel)) ggJ7_copyOfRange_39247_J7_copyOfRangeByte_39247
theorem dJ7_copyOfRange_39247_0 : decode cJ7_copyOfRange_39247 0 = .ok (.iload_n 1, 1) := by decide +kernel
theorem dJ7_copyOfRange_39247_1 : decode cJ7_copyOfRange_39247 1 = .ok (.ifCond .ne 9, 3) := by decide +kernel
theorem dJ7_copyOfRange_39247_4 : decode cJ7_copyOfRange_39247 4 = .ok (.iload_n 2, 1) := by decide +kernel
theorem dJ7_copyOfRange_39247_5 : decode cJ7_copyOfRange_39247 5 = .ok (.aload_n 0, 1) := by decide +kernel
theorem dJ7_copyOfRange_39247_6 : decode cJ7_copyOfRange_39247 6 = .ok (.arraylength, 1) := by decide +kernel
theorem dJ7_copyOfRange_39247_7 : decode cJ7_copyOfRange_39247 7 = .ok (.if_icmp .eq 10, 3) := by decide +kernel
theorem dJ7_copyOfRange_39247_10 : decode cJ7_copyOfRange_39247 10 = .ok (.aload_n 0, 1) := by decide +kernel
theorem dJ7_copyOfRange_39247_11 : decode cJ7_copyOfRange_39247 11 = .ok (.iload_n 1, 1) := by decide +kernel
theorem dJ7_copyOfRange_39247_12 : decode cJ7_copyOfRange_39247 12 = .ok (.iload_n 2, 1) := by decide +kernel
theorem dJ7_copyOfRange_39247_13 : decode cJ7_copyOfRange_39247 13 = .ok (.invokestatic 339, 3) := by decide +kernel
theorem dJ7_copyOfRange_39247_16 : decode cJ7_copyOfRange_39247 16 = .ok (.areturn, 1) := by decide +kernel
theorem dJ7_copyOfRange_39247_17 : decode cJ7_copyOfRange_39247 17 = .ok (.aload_n 0, 1) := by decide +kernel
theorem dJ7_copyOfRange_39247_18 : decode cJ7_copyOfRange_39247 18 = .ok (.invokevirtual 310, 3) := by decide +kernel
theorem dJ7_copyOfRange_39247_21 : decode cJ7_copyOfRange_39247 21 = .ok (.checkcast 311, 3) := by decide +kernel
theorem dJ7_copyOfRange_39247_24 : decode cJ7_copyOfRange_39247 24 = .ok (.areturn, 1) := by decide +kernel
set_option maxRecDepth 20000 in
theorem ggJ7_copyOfRangeByte_39247_J7_checkLength_df160 : GoodIn wsJ7_copyOfRangeByte_39247 wsJ7_checkLength_df160 := goodIn_r _ [13, 14, 15, 16, 17, 18, 19, 20] (by decide +kernel) (by decide +kernel)
set_option maxRecDepth 20000 in
theorem gJ7_copyOfRangeByte_39247_J7_checkLength_df160 : GoodIn wsJ7_copyOfRangeByte_39247 (va_wsS RJ7 343 yJ7_checkLength_df160 wsJ7_checkLength_df160) := goodIn_app (goodIn_of _ (by decide +kernel)) ggJ7_copyOfRangeByte_39247_J7_checkLength_df160
theorem dJ7_copyOfRangeByte_39247_0 : decode cJ7_copyOfRangeByte_39247 0 = .ok (.iload_n 1, 1) := by decide +kernel
theorem dJ7_copyOfRangeByte_39247_1 : decode cJ7_copyOfRangeByte_39247 1 = .ok (.iload_n 2, 1) := by decide +kernel
theorem dJ7_copyOfRangeByte_39247_2 : decode cJ7_copyOfRangeByte_39247 2 = .ok (.invokestatic 343, 3) := by decide +kernel
theorem dJ7_copyOfRangeByte_39247_5 : decode cJ7_copyOfRangeByte_39247 5 = .ok (.iload_n 2, 1) := by decide +kernel
theorem dJ7_copyOfRangeByte_39247_6 : decode cJ7_copyOfRangeByte_39247 6 = .ok (.iload_n 1, 1) := by decide +kernel
theorem dJ7_copyOfRangeByte_39247_7 : decode cJ7_copyOfRangeByte_39247 7 = .ok (.isub, 1) := by decide +kernel
theorem dJ7_copyOfRangeByte_39247_8 : decode cJ7_copyOfRangeByte_39247 8 = .ok (.istore_n 3, 1) := by decide +kernel
theorem dJ7_copyOfRangeByte_39247_9 : decode cJ7_copyOfRangeByte_39247 9 = .ok (.iload_n 3, 1) := by decide +kernel
theorem dJ7_copyOfRangeByte_39247_10 : decode cJ7_copyOfRangeByte_39247 10 = .ok (.newarray .byte, 2) := by decide +kernel
theorem dJ7_copyOfRangeByte_39247_12 : decode cJ7_copyOfRangeByte_39247 12 = .ok (.astore 4, 2) := by decide +kernel
theorem dJ7_copyOfRangeByte_39247_14 : decode cJ7_copyOfRangeByte_39247 14 = .ok (.aload_n 0, 1) := by decide +kernel
theorem dJ7_copyOfRangeByte_39247_15 : decode cJ7_copyOfRangeByte_39247 15 = .ok (.iload_n 1, 1) := by decide +kernel
theorem dJ7_copyOfRangeByte_39247_16 : decode cJ7_copyOfRangeByte_39247 16 = .ok (.aload 4, 2) := by decide +kernel
theorem dJ7_copyOfRangeByte_39247_18 : decode cJ7_copyOfRangeByte_39247 18 = .ok (.iconst 0, 1) := by decide +kernel
theorem dJ7_copyOfRangeByte_39247_19 : decode cJ7_copyOfRangeByte_39247 19 = .ok (.aload_n 0, 1) := by decide +kernel
theorem dJ7_copyOfRangeByte_39247_20 : decode cJ7_copyOfRangeByte_39247 20 = .ok (.arraylength, 1) := by decide +kernel
theorem dJ7_copyOfRangeByte_39247_21 : decode cJ7_copyOfRangeByte_39247 21 = .ok (.iload_n 1, 1) := by decide +kernel
theorem dJ7_copyOfRangeByte_39247_22 : decode cJ7_copyOfRangeByte_39247 22 = .ok (.isub, 1) := by decide +kernel
theorem dJ7_copyOfRangeByte_39247_23 : decode cJ7_copyOfRangeByte_39247 23 = .ok (.iload_n 3, 1) := by decide +kernel
theorem dJ7_copyOfRangeByte_39247_24 : decode cJ7_copyOfRangeByte_39247 24 = .ok (.invokestatic 304, 3) := by decide +kernel
theorem dJ7_copyOfRangeByte_39247_27 : decode cJ7_copyOfRangeByte_39247 27 = .ok (.invokestatic 150, 3) := by decide +kernel
theorem dJ7_copyOfRangeByte_39247_30 : decode cJ7_copyOfRangeByte_39247 30 = .ok (.aload 4, 2) := by decide +kernel
theorem dJ7_copyOfRangeByte_39247_32 : decode cJ7_copyOfRangeByte_39247 32 = .ok (.areturn, 1) := by decide +kernel
end
section
/-! THE LAYER: one world of ours (a list of cells), its rows, its calls. G: (where fields lie, the numbers of int[], boolean[], long[]). -/
abbrev xcl : List vw_C := [(RX0, TX0, 10), (RX1, TX1, 10)]
abbrev gs_G : Type := va_G × ClassId × ClassId × ClassId
abbrev gs_t (G : gs_G) : List (ClassId × FieldType) := [(G.2.1, .int), (G.2.2.1, .boolean), (G.2.2.2, .long)]
/-- the world ws stands in H, since s nothing outside A has changed -/
def gs_Z (G : gs_G) (ws : va_W) (A : Nat → Prop) (s : State) (H : Heap) (locs : List Loc) : Prop := va_K G.1 xcl (gs_t G) s ∧ va_P G.1 xcl ws H ∧ va_D A ws ∧ va_S A s.heap H locs ∧ ∀ q : Nat, s.heap.size ≤ q → A q
/-- a method's start, and its end -/
def gm_P (G : gs_G) (ws : va_W) (sz : Nat) (U : State) : Prop := U.heap.size = sz ∧ va_P G.1 xcl ws U.heap ∧ va_K G.1 xcl (gs_t G) U ∧ va_D (fun _ => True) ws
def gm_B (G : gs_G) (ws0 : va_W) (sz : Nat) (ws : va_W) (t : State) : Prop := va_P G.1 xcl ws t.heap ∧ va_K G.1 xcl (gs_t G) t ∧ va_D (va_A ws0 sz) ws
/-- a contract: for every size of the heap; an answer that is an int or a boolean; no answer -/
def gm_i {ρ : Type} (l : Launch) (y : MethodName) (wy : List Cond) (rm : Room) (G : gs_G) (w : ρ → va_W) (r : ρ) (av : List Value) (post : Int32 → ρ → Prop) (mc ms : Nat) : Prop :=
  ∀ sz : Nat, Met l y wy rm (va_Pc av (gm_P G (w r) sz)) (va_Qi post (fun u t => gm_B G (w r) sz (w u) t) (va_A (w r) sz)) mc ms (va_A (w r) sz)
def gm_v {ρ : Type} (l : Launch) (y : MethodName) (wy : List Cond) (rm : Room) (G : gs_G) (w : ρ → va_W) (r : ρ) (av : List Value) (post : ρ → Prop) (mc ms : Nat) : Prop :=
  ∀ sz : Nat, Met l y wy rm (va_Pc av (gm_P G (w r) sz)) (va_Qv post (fun u t => gm_B G (w r) sz (w u) t) (va_A (w r) sz)) mc ms (va_A (w r) sz)
abbrev gm_rm (d mc ms : Nat) : Room := { frames := d, cells := mc, slots := ms, locals := 40 * d }
/-- what a body stands on -/
def gm_C (p : Program) (s : State) (m : MethodId) (args : Array Value) (meth : Method) (c : Code) (cc : ByteArray) (nL : Nat) (ret : Option FieldType) (wy : List Cond) (own : String) : Prop :=
  CallFix p m c cc nL s args wy own ∧ meth.sig.returnType = ret ∧ meth.locks = false ∧ (∀ x ∈ c.exceptionTable.toList, False)
theorem gm_blind {G : gs_G} {ws : va_W} {av : List Value} {sz : Nat} : FrameBlind (va_Pc av (gm_P G ws sz)) := fun a U g mk q => by
  obtain ⟨q0, q1, qP, qK, qD⟩ := q
  exact ⟨q0, q1, qP, va_K.moved (u := U) (U := U.calling g mk a) (Vm.Alike.refl U.vm) qK, qD⟩
theorem gs_entry {G : gs_G} {ws : va_W} {s : State} {sz : Nat} (h : gm_P G ws sz s) : sz = s.heap.size ∧ gs_Z G ws (va_A ws s.heap.size) s s.heap [] := by
  obtain ⟨h1, h2, h3, h4⟩ := h
  exact ⟨h1.symm, h3, h2, h4.self, va_S.rf, fun q h => Or.inr h⟩
section GM
variable {ρ : Type} {l : Launch} {y : MethodName} {wy ws' : List Cond} {rm : Room} {G : gs_G} {w : ρ → va_W} {r : ρ} {av : List Value} {mc ms : Nat} {cc : ByteArray} {nL : Nat} {ret : Option FieldType}
theorem gm_i.of {post : Int32 → ρ → Prop} (hy : plainName y.cls = true) (hw : wy = Cond.code y cc nL ret :: ws') (hlen : (lg_sl av).length ≤ nL)
    (body : ∀ (p : Program) (e : Env) (s : State) (m : MethodId) (args : Array Value) (below : List Frame) (meth : Method) (c : Code) (ls : Array Slot), gm_C p s m args meth c cc nL ret wy y.cls → gs_Z G (w r) (va_A (w r) s.heap.size) s s.heap [] → lv_has ls nL (lv_args 0 av) →
      W p l e rm s m args below meth c s.heap [] 0 0 (MQ below (va_Qi post (fun u t => gm_B G (w r) s.heap.size (w u) t) (va_A (w r) s.heap.size)) args s mc ms (va_A (w r) s.heap.size)) (F0 m 0 ls [])) : gm_i l y wy rm G w r av post mc ms := by
  intro sz
  refine Met.ofW (cc := cc) (maxL := nL) (ret := ret) hy hw ?_
  intro p e s m args below meth c s₁ B hml hv
  obtain ⟨rfl, hv⟩ := hv
  obtain ⟨rfl, hz⟩ := gs_entry hv
  have hts := atoms_spec (ws := wy) B.pre
  have hcode : (Cond.code y cc nL ret).before av.toArray s = true := hts _ (by rw [hw]; exact List.mem_cons_self)
  have ht : ∀ x ∈ c.exceptionTable.toList, False := fun x hx => by
    have h1 := B.noHandlers hcode
    simp at h1
    rw [h1] at hx
    simp at hx
  have hl := lv_entry av (n := nL) hlen
  rw [lg_entry_eq]
  exact body p e s m av.toArray below meth c _ ⟨⟨B.exec, B.bytes, hml, findClass_of_methodNamed B.named, hts⟩, B.returns, B.notSynchronized, ht⟩ hz hl
theorem gm_v.of {post : ρ → Prop} (hy : plainName y.cls = true) (hw : wy = Cond.code y cc nL ret :: ws') (hlen : (lg_sl av).length ≤ nL)
    (body : ∀ (p : Program) (e : Env) (s : State) (m : MethodId) (args : Array Value) (below : List Frame) (meth : Method) (c : Code) (ls : Array Slot), gm_C p s m args meth c cc nL ret wy y.cls → gs_Z G (w r) (va_A (w r) s.heap.size) s s.heap [] → lv_has ls nL (lv_args 0 av) →
      W p l e rm s m args below meth c s.heap [] 0 0 (MQ below (va_Qv post (fun u t => gm_B G (w r) s.heap.size (w u) t) (va_A (w r) s.heap.size)) args s mc ms (va_A (w r) s.heap.size)) (F0 m 0 ls [])) : gm_v l y wy rm G w r av post mc ms := by
  intro sz
  refine Met.ofW (cc := cc) (maxL := nL) (ret := ret) hy hw ?_
  intro p e s m args below meth c s₁ B hml hv
  obtain ⟨rfl, hv⟩ := hv
  obtain ⟨rfl, hz⟩ := gs_entry hv
  have hts := atoms_spec (ws := wy) B.pre
  have hcode : (Cond.code y cc nL ret).before av.toArray s = true := hts _ (by rw [hw]; exact List.mem_cons_self)
  have ht : ∀ x ∈ c.exceptionTable.toList, False := fun x hx => by
    have h1 := B.noHandlers hcode
    simp at h1
    rw [h1] at hx
    simp at hx
  have hl := lv_entry av (n := nL) hlen
  rw [lg_entry_eq]
  exact body p e s m av.toArray below meth c _ ⟨⟨B.exec, B.bytes, hml, findClass_of_methodNamed B.named, hts⟩, B.returns, B.notSynchronized, ht⟩ hz hl
end GM
section GS
variable {p : Program} {l : Launch} {e : Env} {R : Room} {s : State} {m : MethodId} {args : Array Value} {below : List Frame} {meth : Method} {c : Code} {H : Heap} {locs : List Loc} {cells slots : Nat} {Q : State → Prop}
variable {cc : ByteArray} {pc : Nat} {ls : Array Slot} {rest : List Value} {G : gs_G} {ws wr : va_W} {A : Nat → Prop} {a : Nat}
/-- the number on top is that one -/
theorem gs_eq {x y : Int32} (h : x = y) (k : W p l e R s m args below meth c H locs cells slots Q (F0 m pc ls (.int y :: rest))) : W p l e R s m args below meth c H locs cells slots Q (F0 m pc ls (.int x :: rest)) := by rw [h]; exact k
theorem gs_ld (hx : p.tables.exec = Jvm.exec) (hb : c.code = cc) (hz : gs_Z G ws A s H locs) (q0 : Nat) {cA : ClassId} {n : Nat} {f : Nat → Int32} (ha : ws[q0]? = some (a, .inl (cA, n, .inl f))) (ht : cA = G.2.1) {i : Int32} (k : Nat) (hk : k < n) (hn : n < 2 ^ 31) (hi : i = nI k) (hdg : decode cc pc = .ok (.iaload, 1))
    (kk : W p l e R s m args below meth c H locs cells slots Q (F0 m (pc + 1) ls (.int (f k) :: rest))) : W p l e R s m args below meth c H locs cells slots Q (F0 m pc ls (.int i :: .ref a :: rest)) := by
  subst hi
  subst ht
  refine va_iald hx hb hz.1 hz.2.1 q0 0 ha rfl (vp_in_nI hk hn) hdg ?_
  rw [nI_clamp (by omega)]
  exact kk
theorem gs_ldz (hx : p.tables.exec = Jvm.exec) (hb : c.code = cc) (hz : gs_Z G ws A s H locs) (q0 : Nat) {cA : ClassId} {n : Nat} {f : Nat → Int32} (ha : ws[q0]? = some (a, .inl (cA, n, .inl f))) (ht : cA = G.2.2.1) {i : Int32} (k : Nat) (hk : k < n) (hn : n < 2 ^ 31) (hi : i = nI k) (hdg : decode cc pc = .ok (.baload, 1))
    (kk : W p l e R s m args below meth c H locs cells slots Q (F0 m (pc + 1) ls (.int (f k) :: rest))) : W p l e R s m args below meth c H locs cells slots Q (F0 m pc ls (.int i :: .ref a :: rest)) := by
  subst hi
  subst ht
  refine va_zald hx hb hz.1 hz.2.1 q0 1 ha rfl (vp_in_nI hk hn) hdg ?_
  rw [nI_clamp (by omega)]
  exact kk
theorem gs_st (hx : p.tables.exec = Jvm.exec) (hb : c.code = cc) (hz : gs_Z G ws A s H locs) (q0 : Nat) {cA : ClassId} {n : Nat} {f : Nat → Int32} (ha : ws[q0]? = some (a, .inl (cA, n, .inl f))) (ht : cA = G.2.1) {i x : Int32} (k : Nat) (hk : k < n) (hn : n < 2 ^ 31) (hi : i = nI k) (hdg : decode cc pc = .ok (.iastore, 1))
    (kk : ∀ (H1 : Heap) (locs1 : List Loc), gs_Z G (ws.set q0 (a, .inl (cA, n, .inl (upd f k x)))) A s H1 locs1 → W p l e R s m args below meth c H1 locs1 cells slots Q (F0 m (pc + 1) ls rest)) : W p l e R s m args below meth c H locs cells slots Q (F0 m pc ls (.int x :: .int i :: .ref a :: rest)) := by
  subst hi
  subst ht
  refine va_iast hx hb hz.1 hz.2.1 hz.2.2.1 hz.2.2.2.1 q0 0 ha rfl (vp_in_nI hk hn) hdg (fun H1 locs1 h1 h2 h3 => ?_)
  rw [nI_clamp (by omega)] at h1 h2
  exact kk H1 locs1 ⟨hz.1, h1, h2, h3, hz.2.2.2.2⟩
theorem gs_stz (hx : p.tables.exec = Jvm.exec) (hb : c.code = cc) (hz : gs_Z G ws A s H locs) (q0 : Nat) {cA : ClassId} {n : Nat} {f : Nat → Int32} (ha : ws[q0]? = some (a, .inl (cA, n, .inl f))) (ht : cA = G.2.2.1) {i x : Int32} (k : Nat) (hk : k < n) (hn : n < 2 ^ 31) (hi : i = nI k) (hv : vp_nar .boolean x = x) (hdg : decode cc pc = .ok (.bastore, 1))
    (kk : ∀ (H1 : Heap) (locs1 : List Loc), gs_Z G (ws.set q0 (a, .inl (cA, n, .inl (upd f k x)))) A s H1 locs1 → W p l e R s m args below meth c H1 locs1 cells slots Q (F0 m (pc + 1) ls rest)) : W p l e R s m args below meth c H locs cells slots Q (F0 m pc ls (.int x :: .int i :: .ref a :: rest)) := by
  subst hi
  subst ht
  refine va_zast hx hb hz.1 hz.2.1 hz.2.2.1 hz.2.2.2.1 q0 1 ha rfl (vp_in_nI hk hn) hdg (fun H1 locs1 h1 h2 h3 => ?_)
  rw [nI_clamp (by omega), hv] at h1 h2
  exact kk H1 locs1 ⟨hz.1, h1, h2, h3, hz.2.2.2.2⟩
/-- a field read, a field of ints written -/
theorem gs_get (hx : p.tables.exec = Jvm.exec) (hb : c.code = cc) {own ref C : String} {T : u_T} {N ci index : Nat} {Ts : List Cond} (hts : ∀ w ∈ Ts, w.before args s = true) (hin : ∀ w ∈ u_ws C T N, w ∈ Ts) (hown : s.vm.findClass own = some m.cls) (hz : gs_Z G ws A s H locs) (q0 : Nat) {fs : List Value} (he : ws[q0]? = some (a, .inr (ci, fs))) (hc : xcl[ci]? = some (C, T, N)) (k : Nat) (hk : k < N) (href : ref = (T k).1) (hlink : (Cond.fieldLink own index ref (T k).2.1 (T k).2.2.1).before args s = true) {v : Value} (hv : fs[k]? = some v) (hdg : decode cc pc = .ok (.getfield index, 3))
    (kk : W p l e R s m args below meth c H locs cells slots Q (F0 m (pc + 3) ls (v :: rest))) : W p l e R s m args below meth c H locs cells slots Q (F0 m pc ls (.ref a :: rest)) := by
  subst href
  exact va_get hx hb hts hin hown hz.1 hz.2.1 q0 he hc k hk hlink (fun _ h9 => h9) hv hdg kk
theorem gs_put (hx : p.tables.exec = Jvm.exec) (hb : c.code = cc) {own ref C : String} {T : u_T} {N ci index : Nat} {Ts : List Cond} (hts : ∀ w ∈ Ts, w.before args s = true) (hin : ∀ w ∈ u_ws C T N, w ∈ Ts) (ty0 : Nat → FieldType) (hty : ∀ k, k < N → parseFieldDescriptor (T k).2.2.1 = some (ty0 k)) (hnm : ∀ a, a < N → ∀ b, b < N → a ≠ b → (T a).2.1 ≠ (T b).2.1) (hown : s.vm.findClass own = some m.cls) (hz : gs_Z G ws A s H locs) (q0 : Nat) {fs : List Value} (he : ws[q0]? = some (a, .inr (ci, fs))) (hc : xcl[ci]? = some (C, T, N)) (k : Nat) (hk : k < N) (href : ref = (T k).1) (hlink : (Cond.fieldLink own index ref (T k).2.1 (T k).2.2.1).before args s = true) (hfin : (T k).2.2.2 = false) (hd : parseFieldDescriptor (T k).2.2.1 = some .int) {x : Int32} (hl : k < fs.length) (hdg : decode cc pc = .ok (.putfield index, 3))
    (kk : ∀ (H1 : Heap) (locs1 : List Loc), gs_Z G (ws.set q0 (a, .inr (ci, fs.set k (.int x)))) A s H1 locs1 → W p l e R s m args below meth c H1 locs1 cells slots Q (F0 m (pc + 3) ls rest)) : W p l e R s m args below meth c H locs cells slots Q (F0 m pc ls (.int x :: .ref a :: rest)) := by
  subst href
  refine va_put (ty := .int) (v := .int x) hx hb hts hin ty0 hty hnm hown hz.1 hz.2.1 hz.2.2.1 hz.2.2.2.1 q0 he hc k hk hlink (fun _ h9 => h9) hfin hd rfl rfl hl hdg (fun H1 locs1 h1 h2 h3 => ?_)
  exact kk H1 locs1 ⟨hz.1, h1, h2, h3, hz.2.2.2.2⟩
/-- the ends -/
theorem gs_reti {ρ : Type} {w : ρ → va_W} {ws0 : va_W} {post : Int32 → ρ → Prop} {nL mc ms : Nat} {wy : List Cond} {own : String} {v : Int32} (u : ρ) (C0 : gm_C p s m args meth c cc nL (some .int) wy own) (hz : gs_Z G (w u) (va_A ws0 s.heap.size) s H locs) (hp : post v u) (hc : cells ≤ mc) (hs : slots ≤ ms) (hdg : decode cc pc = .ok (.ireturn, 1)) :
    W p l e R s m args below meth c H locs cells slots (MQ below (va_Qi post (fun u t => gm_B G ws0 s.heap.size (w u) t) (va_A ws0 s.heap.size)) args s mc ms (va_A ws0 s.heap.size)) (F0 m pc ls [.int v]) := by
  refine W.widen hc hs ?_
  obtain ⟨⟨hx, hb, -, -, -⟩, hr, hlocks, -⟩ := C0
  exact W.iret (v := v) hx hb hr (fun t ht hW => ⟨⟨v, u, rfl, hp, by rw [ht]; exact hz.2.1, va_K.moved hW.alike hz.1, hz.2.2.1⟩, hz.2.2.2.1.F ht⟩) hz.2.2.2.1.2.2 hdg hlocks
theorem gs_retz {ρ : Type} {w : ρ → va_W} {ws0 : va_W} {post : Int32 → ρ → Prop} {nL mc ms : Nat} {wy : List Cond} {own : String} {v : Int32} (u : ρ) (C0 : gm_C p s m args meth c cc nL (some .boolean) wy own) (hz : gs_Z G (w u) (va_A ws0 s.heap.size) s H locs) (hn : vp_nar .boolean v = v) (hp : post v u) (hc : cells ≤ mc) (hs : slots ≤ ms) (hdg : decode cc pc = .ok (.ireturn, 1)) :
    W p l e R s m args below meth c H locs cells slots (MQ below (va_Qi post (fun u t => gm_B G ws0 s.heap.size (w u) t) (va_A ws0 s.heap.size)) args s mc ms (va_A ws0 s.heap.size)) (F0 m pc ls [.int v]) := by
  refine W.widen hc hs ?_
  obtain ⟨⟨hx, hb, -, -, -⟩, hr, hlocks, -⟩ := C0
  have hn2 : narrow .boolean (.int v) = .int v := congrArg Value.int hn
  exact W.zret (v := v) (ty := .boolean) hx hb hr hn2 (fun t ht hW => ⟨⟨v, u, rfl, hp, by rw [ht]; exact hz.2.1, va_K.moved hW.alike hz.1, hz.2.2.1⟩, hz.2.2.2.1.F ht⟩) hz.2.2.2.1.2.2 hdg hlocks
theorem gs_retv {ρ : Type} {w : ρ → va_W} {ws0 : va_W} {post : ρ → Prop} {nL mc ms : Nat} {wy : List Cond} {own : String} (u : ρ) (C0 : gm_C p s m args meth c cc nL none wy own) (hz : gs_Z G (w u) (va_A ws0 s.heap.size) s H locs) (hp : post u) (hc : cells ≤ mc) (hs : slots ≤ ms) (hdg : decode cc pc = .ok (.return_, 1)) :
    W p l e R s m args below meth c H locs cells slots (MQ below (va_Qv post (fun u t => gm_B G ws0 s.heap.size (w u) t) (va_A ws0 s.heap.size)) args s mc ms (va_A ws0 s.heap.size)) (F0 m pc ls []) := by
  refine W.widen hc hs ?_
  obtain ⟨⟨hx, hb, -, -, -⟩, hr, hlocks, -⟩ := C0
  exact W.vret hx hb hr (fun t ht hW => ⟨⟨u, rfl, hp, by rw [ht]; exact hz.2.1, va_K.moved hW.alike hz.1, hz.2.2.1⟩, hz.2.2.2.1.F ht⟩) hz.2.2.2.1.2.2 hdg hlocks
/-- a callee's cells ahead, the rest behind: what a call needs of them, and what comes back -/
theorem gs_P1 (hz : gs_Z G (ws ++ wr) A s H locs) : va_P G.1 xcl ws H := fun k q h => hz.2.1 k q (by rw [List.getElem?_append_left (List.getElem?_eq_some_iff.mp h).1]; exact h)
theorem gs_D1 (hz : gs_Z G (ws ++ wr) A s H locs) : va_D A ws := ⟨fun i j x y hi hj h => hz.2.2.1.1 i j x y (by rw [List.getElem?_append_left (List.getElem?_eq_some_iff.mp hi).1]; exact hi) (by rw [List.getElem?_append_left (List.getElem?_eq_some_iff.mp hj).1]; exact hj) h, fun k q h => hz.2.2.1.2 k q (by rw [List.getElem?_append_left (List.getElem?_eq_some_iff.mp h).1]; exact h)⟩
theorem gs_F1 (hz : gs_Z G (ws ++ wr) A s H locs) : ∀ q, va_A ws H.size q → A q := fun q h => by
  rcases h with ⟨k, e, h⟩ | h
  · exact (gs_D1 hz).2 k (q, e) h
  · exact hz.2.2.2.2 q (Nat.le_trans hz.2.2.2.1.1 h)
theorem gs_back (hz : gs_Z G (ws ++ wr) A s H locs) {w1 : va_W} {H1 : Heap} {locs1 : List Loc} (hk : ∀ q : Nat, q < H.size → ¬ va_A ws H.size q → H1[q]? = H[q]?) (hP1 : va_P G.1 xcl w1 H1) (hD1 : va_D (va_A ws H.size) w1) (hS : va_S A s.heap H1 locs1) : gs_Z G (w1 ++ wr) A s H1 locs1 := by
  have apart : ∀ (k : Nat) (q : Nat × va_E), wr[k]? = some q → q.1 < H.size ∧ ¬ va_A ws H.size q.1 := by
    intro k q hq
    have h2 : (ws ++ wr)[ws.length + k]? = some q := by rw [List.getElem?_append_right (Nat.le_add_right _ _), Nat.add_sub_cancel_left]; exact hq
    have hl := (hz.2.1 _ q h2).lt
    refine ⟨hl, fun h => ?_⟩
    rcases h with ⟨k2, e2, h⟩ | h
    · have hk2 := (List.getElem?_eq_some_iff.mp h).1
      have h3 : (ws ++ wr)[k2]? = some (q.1, e2) := by rw [List.getElem?_append_left hk2]; exact h
      have := hz.2.2.1.1 _ _ _ _ h3 h2 rfl
      omega
    · omega
  refine ⟨hz.1, va_P.app hP1 (fun k q hq => ?_), va_D.app (hD1.weaken (fun k q _ h => gs_F1 hz q.1 h)) ⟨fun i j x y hi hj h => ?_, fun k q hq => ?_⟩ (fun i j x y hx hy hxy => ?_), hS, hz.2.2.2.2⟩
  · have h2 : (ws ++ wr)[ws.length + k]? = some q := by rw [List.getElem?_append_right (Nat.le_add_right _ _), Nat.add_sub_cancel_left]; exact hq
    obtain ⟨g1, g2⟩ := apart k q hq
    exact (hz.2.1 _ q h2).kept (hk q.1 g1 g2)
  · have h2 : (ws ++ wr)[ws.length + i]? = some x := by rw [List.getElem?_append_right (Nat.le_add_right _ _), Nat.add_sub_cancel_left]; exact hi
    have h3 : (ws ++ wr)[ws.length + j]? = some y := by rw [List.getElem?_append_right (Nat.le_add_right _ _), Nat.add_sub_cancel_left]; exact hj
    have := hz.2.2.1.1 _ _ _ _ h2 h3 h
    omega
  · have h2 : (ws ++ wr)[ws.length + k]? = some q := by rw [List.getElem?_append_right (Nat.le_add_right _ _), Nat.add_sub_cancel_left]; exact hq
    exact hz.2.2.1.2 _ q h2
  · exact (apart j y hy).2 (by rw [← hxy]; exact hD1.2 i x hx)
theorem gs_nil (hz : gs_Z G ws A s H locs) : gs_Z G (ws ++ []) A s H locs := by rw [List.append_nil]; exact hz
theorem gs_unnil (hz : gs_Z G (ws ++ []) A s H locs) : gs_Z G ws A s H locs := by rw [List.append_nil] at hz; exact hz
theorem gs_pre (hz : gs_Z G (ws ++ wr) A s H locs) {av : List Value} : ∀ U : State, U.heap = H → s.WarmedH U.vm → va_Pc av (gm_P G ws H.size) av.toArray U := fun U hU hW => ⟨rfl, by rw [hU], by rw [hU]; exact gs_P1 hz, va_K.moved hW.alike hz.1, (gs_D1 hz).weaken (fun _ _ _ _ => trivial)⟩
section CALLS
variable {ρ : Type} {w : ρ → va_W} {r : ρ} {y : MethodName} {bytes : ByteArray} {maxL nL mc ms n index : Nat} {ret : Option FieldType} {wy Ts : List Cond} {rm : Room} {own C : String} {b : Nat} {As st0 : List Value}
theorem gs_callVi {post : Int32 → ρ → Prop} (S : CallFix p m c cc nL s args Ts own) (hM : gm_i l y wy rm G w r (.ref b :: As) post mc ms) (cw : CallW R s args own C index y bytes maxL ret wy rm mc ms n) {ci : Nat} {fs : List Value} {q : vw_C} (he : (w r)[0]? = some (b, .inr (ci, fs))) (hc : xcl[ci]? = some q) (hq : q.1 = C)
    (hz : gs_Z G (w r ++ wr) A s H locs) (hn : As.length = n) (hsize : ls.size = nL) (hst : st0 = As.reverse ++ .ref b :: rest) (hW : (rest.map fun v => v.category).sum ≤ 8) (hdg : decode cc pc = .ok (.invokevirtual index, 3)) (hf : cells + mc ≤ R.cells ∧ slots + ms ≤ R.slots)
    (kk : ∀ (res : Int32) (u : ρ) (H1 : Heap) (locs1 : List Loc), post res u → gs_Z G (w u ++ wr) A s H1 locs1 → W p l e R s m args below meth c H1 locs1 (cells + mc) (slots + ms) Q (F0 m (pc + 3) ls (.int res :: rest))) : W p l e R s m args below meth c H locs cells slots Q (F0 m pc ls st0) := by
  have hrecv := va_recv hz.1 (gs_P1 hz) hc he
  rw [hq] at hrecv
  refine va_calli (va_runV (As := As) (rest := rest) S (hM H.size) cw ⟨gm_blind, hrecv, gs_pre hz⟩ rfl hn hsize hst (lv_room hW) hdg hf) hz.2.2.2.1 (fun q _ h => gs_F1 hz q h) (gs_F1 hz) (fun res u t H1 locs1 ht hvm hw hB hz1 hk1 hS => ?_)
  obtain ⟨hP1, hK1, hD1⟩ := hB
  rw [ht] at hP1
  exact kk res u H1 locs1 hw (gs_back hz hk1 hP1 hD1 hS)
theorem gs_callVv {post : ρ → Prop} (S : CallFix p m c cc nL s args Ts own) (hM : gm_v l y wy rm G w r (.ref b :: As) post mc ms) (cw : CallW R s args own C index y bytes maxL ret wy rm mc ms n) {ci : Nat} {fs : List Value} {q : vw_C} (he : (w r)[0]? = some (b, .inr (ci, fs))) (hc : xcl[ci]? = some q) (hq : q.1 = C)
    (hz : gs_Z G (w r ++ wr) A s H locs) (hn : As.length = n) (hsize : ls.size = nL) (hst : st0 = As.reverse ++ .ref b :: rest) (hW : (rest.map fun v => v.category).sum ≤ 8) (hdg : decode cc pc = .ok (.invokevirtual index, 3)) (hf : cells + mc ≤ R.cells ∧ slots + ms ≤ R.slots)
    (kk : ∀ (u : ρ) (H1 : Heap) (locs1 : List Loc), post u → gs_Z G (w u ++ wr) A s H1 locs1 → W p l e R s m args below meth c H1 locs1 (cells + mc) (slots + ms) Q (F0 m (pc + 3) ls rest)) : W p l e R s m args below meth c H locs cells slots Q (F0 m pc ls st0) := by
  have hrecv := va_recv hz.1 (gs_P1 hz) hc he
  rw [hq] at hrecv
  refine va_callv (va_runV (As := As) (rest := rest) S (hM H.size) cw ⟨gm_blind, hrecv, gs_pre hz⟩ rfl hn hsize hst (lv_room hW) hdg hf) hz.2.2.2.1 (fun q _ h => gs_F1 hz q h) (gs_F1 hz) (fun u t H1 locs1 ht hvm hw hB hz1 hk1 hS => ?_)
  obtain ⟨hP1, hK1, hD1⟩ := hB
  rw [ht] at hP1
  exact kk u H1 locs1 hw (gs_back hz hk1 hP1 hD1 hS)
end CALLS
end GS
end
section
/-! THE STATE IN OUR OWN WORDS: a row R of handles as their blocks stand; b where a handle's block begins, n how many bytes it has. Gap k lies ahead of block k of the row, the last one behind all. -/
def hg_at (R : List Nat) (k : Nat) : Nat := R.getD k 0
def hg_gb (R : List Nat) (b n : Nat → Nat) (k : Nat) : Nat := if k = 0 then 0 else b (hg_at R (k - 1)) + n (hg_at R (k - 1))
def hg_ge (R : List Nat) (b : Nat → Nat) (k : Nat) : Nat := if k = R.length then 1024 else b (hg_at R k)
def hg_gl (R : List Nat) (b n : Nat → Nat) (k : Nat) : Nat := hg_ge R b k - hg_gb R b n k
/-- the blocks of the row stand behind one another within the 1024 bytes, none is of no byte -/
def hg_I (R : List Nat) (b n : Nat → Nat) : Prop := (∀ k, k ≤ R.length → hg_gb R b n k ≤ hg_ge R b k) ∧ ∀ k, k < R.length → 1 ≤ n (hg_at R k)
theorem hg_at_mem {R : List Nat} {k : Nat} (h : k < R.length) : hg_at R k ∈ R := by
  unfold hg_at
  rw [List.getD_eq_getElem?_getD, List.getElem?_eq_getElem h]
  exact List.getElem_mem h
theorem hg_at_of {R : List Nat} {h : Nat} (hm : h ∈ R) : ∃ k, k < R.length ∧ hg_at R k = h := by
  obtain ⟨k, hk, e⟩ := List.getElem_of_mem hm
  exact ⟨k, hk, by unfold hg_at; rw [List.getD_eq_getElem?_getD, List.getElem?_eq_getElem hk]; exact e⟩
theorem hg_gb0 {R : List Nat} {b n : Nat → Nat} : hg_gb R b n 0 = 0 := rfl
theorem hg_gbs {R : List Nat} {b n : Nat → Nat} (k : Nat) : hg_gb R b n (k + 1) = b (hg_at R k) + n (hg_at R k) := rfl
theorem hg_geL {R : List Nat} {b : Nat → Nat} : hg_ge R b R.length = 1024 := by unfold hg_ge; rw [if_pos rfl]
theorem hg_gek {R : List Nat} {b : Nat → Nat} {k : Nat} (h : k < R.length) : hg_ge R b k = b (hg_at R k) := by unfold hg_ge; rw [if_neg (by omega)]
theorem hg_lo {R : List Nat} {b n : Nat → Nat} (hI : hg_I R b n) {k : Nat} (h : k < R.length) : hg_gb R b n k ≤ b (hg_at R k) := by
  have h1 := hI.1 k (by omega)
  rw [hg_gek h] at h1
  exact h1
theorem hg_step {R : List Nat} {b n : Nat → Nat} (hI : hg_I R b n) {k : Nat} (h : k + 1 < R.length) : b (hg_at R k) + n (hg_at R k) ≤ b (hg_at R (k + 1)) := by
  have h1 := hg_lo hI h
  rw [hg_gbs] at h1
  exact h1
theorem hg_lt {R : List Nat} {b n : Nat → Nat} (hI : hg_I R b n) {i : Nat} : ∀ d, i + d + 1 < R.length → b (hg_at R i) + n (hg_at R i) ≤ b (hg_at R (i + d + 1)) := by
  intro d
  induction d with
  | zero => intro h; exact hg_step hI h
  | succ d ih =>
    intro h
    have h1 := ih (by omega)
    have h2 := hg_step (k := i + d + 1) hI (by omega)
    have h3 : b (hg_at R (i + (d + 1) + 1)) = b (hg_at R (i + d + 1 + 1)) := rfl
    omega
theorem hg_ord {R : List Nat} {b n : Nat → Nat} (hI : hg_I R b n) {i j : Nat} (hij : i < j) (hj : j < R.length) : b (hg_at R i) + n (hg_at R i) ≤ b (hg_at R j) := by
  have h1 := hg_lt hI (i := i) (j - i - 1) (by omega)
  rw [show i + (j - i - 1) + 1 = j by omega] at h1
  exact h1
theorem hg_end {R : List Nat} {b n : Nat → Nat} (hI : hg_I R b n) {k : Nat} (h : k < R.length) : b (hg_at R k) + n (hg_at R k) ≤ 1024 := by
  have h1 := hI.1 R.length (Nat.le_refl _)
  rw [hg_geL] at h1
  obtain ⟨z, hz⟩ : ∃ z, R.length = z + 1 := ⟨R.length - 1, by omega⟩
  rw [hz, hg_gbs] at h1
  by_cases hk : k = z
  · subst hk; exact h1
  · have h2 := hg_ord hI (i := k) (j := z) (by omega) (by omega)
    omega
theorem hg_inj {R : List Nat} {b n : Nat → Nat} (hI : hg_I R b n) {i j : Nat} (hi : i < R.length) (hj : j < R.length) (h : hg_at R i = hg_at R j) : i = j := by
  rcases Nat.lt_trichotomy i j with q | q | q
  · have h1 := hg_ord hI q hj
    have h2 := hI.2 i hi
    rw [h] at h1 h2; omega
  · exact q
  · have h1 := hg_ord hI q hi
    have h2 := hI.2 j hj
    rw [h] at h1; omega
theorem hg_gbge {R : List Nat} {b n : Nat → Nat} (hI : hg_I R b n) {i j : Nat} (hij : i < j) (hj : j ≤ R.length) : b (hg_at R i) + n (hg_at R i) ≤ hg_gb R b n j := by
  obtain ⟨z, rfl⟩ : ∃ z, j = z + 1 := ⟨j - 1, by omega⟩
  rw [hg_gbs]
  by_cases hk : i = z
  · subst hk; exact Nat.le_refl _
  · have h2 := hg_ord hI (i := i) (j := z) (by omega) (by omega)
    omega
theorem hg_gble {R : List Nat} {b n : Nat → Nat} (hI : hg_I R b n) {k : Nat} (hj : k ≤ R.length) : hg_gb R b n k ≤ 1024 := by
  cases k with
  | zero => rw [hg_gb0]; omega
  | succ k => rw [hg_gbs]; exact hg_end hI (by omega)
theorem hg_gele {R : List Nat} {b n : Nat → Nat} (hI : hg_I R b n) {k : Nat} (hj : k ≤ R.length) : hg_ge R b k ≤ 1024 := by
  by_cases h : k = R.length
  · rw [h, hg_geL]; exact Nat.le_refl _
  · have h1 := hg_end hI (k := k) (by omega)
    rw [hg_gek (by omega)]; omega
/-- two blocks of the row have no byte in common -/
theorem hg_apart {R : List Nat} {b n : Nat → Nat} (hI : hg_I R b n) {h g : Nat} (hh : h ∈ R) (hg : g ∈ R) (hne : h ≠ g) : b h + n h ≤ b g ∨ b g + n g ≤ b h := by
  obtain ⟨i, hi, rfl⟩ := hg_at_of hh
  obtain ⟨j, hj, rfl⟩ := hg_at_of hg
  rcases Nat.lt_trichotomy i j with q | q | q
  · exact Or.inl (hg_ord hI q hj)
  · subst q; exact absurd rfl hne
  · exact Or.inr (hg_ord hI q hi)
/-- a block of the row has no byte in a gap -/
theorem hg_off {R : List Nat} {b n : Nat → Nat} (hI : hg_I R b n) {h k : Nat} (hh : h ∈ R) (hk : k ≤ R.length) : b h + n h ≤ hg_gb R b n k ∨ hg_ge R b k ≤ b h := by
  obtain ⟨i, hi, rfl⟩ := hg_at_of hh
  by_cases q : i < k
  · exact Or.inl (hg_gbge hI q hk)
  · refine Or.inr ?_
    rw [hg_gek (by omega)]
    by_cases e : k = i
    · rw [e]; exact Nat.le_refl _
    · have := hg_ord hI (i := k) (j := i) (by omega) hi
      omega
/-- the geometry looks at the row's own handles alone -/
theorem hg_I_congr {R : List Nat} {b n b' n' : Nat → Nat} (hI : hg_I R b n) (hb : ∀ k, k < R.length → b' (hg_at R k) = b (hg_at R k)) (hn : ∀ k, k < R.length → n' (hg_at R k) = n (hg_at R k)) : hg_I R b' n' := by
  refine ⟨fun k hk => ?_, fun k hk => by rw [hn k hk]; exact hI.2 k hk⟩
  have h1 := hI.1 k hk
  have e1 : hg_gb R b' n' k = hg_gb R b n k := by
    cases k with
    | zero => rfl
    | succ k => rw [hg_gbs, hg_gbs, hb k (by omega), hn k (by omega)]
  have e2 : hg_ge R b' k = hg_ge R b k := by
    by_cases h : k = R.length
    · rw [h, hg_geL, hg_geL]
    · rw [hg_gek (by omega), hg_gek (by omega), hb k (by omega)]
  rw [e1, e2]; exact h1
/-- the same, said along the list: nothing of the row lies below lo -/
def hg_C (b n : Nat → Nat) : Nat → List Nat → Prop
  | lo, [] => lo ≤ 1024
  | lo, h :: t => lo ≤ b h ∧ 1 ≤ n h ∧ hg_C b n (b h + n h) t
theorem hg_C_mono {b n : Nat → Nat} : ∀ {R : List Nat} {lo lo' : Nat}, lo' ≤ lo → hg_C b n lo R → hg_C b n lo' R := by
  intro R
  cases R with
  | nil => intro lo lo' h1 h2; exact Nat.le_trans h1 h2
  | cons x t => intro lo lo' h1 h2; exact ⟨Nat.le_trans h1 h2.1, h2.2⟩
theorem hg_C_of {b n : Nat → Nat} : ∀ (R : List Nat) (lo : Nat), (∀ k, k ≤ R.length → (if k = 0 then lo else hg_gb R b n k) ≤ hg_ge R b k) → (∀ k, k < R.length → 1 ≤ n (hg_at R k)) → hg_C b n lo R := by
  intro R
  induction R with
  | nil =>
    intro lo h1 _
    have := h1 0 (Nat.le_refl _)
    rw [if_pos rfl] at this
    exact this
  | cons x t ih =>
    intro lo h1 h2
    refine ⟨?_, h2 0 (Nat.zero_lt_succ _), ih (b x + n x) (fun k hk => ?_) (fun k hk => h2 (k + 1) (Nat.succ_lt_succ hk))⟩
    · have h0 := h1 0 (Nat.zero_le _)
      rw [if_pos rfl, hg_gek (Nat.zero_lt_succ _)] at h0
      exact h0
    · have h3 := h1 (k + 1) (Nat.succ_le_succ hk)
      rw [if_neg (Nat.succ_ne_zero k), hg_gbs] at h3
      have e : hg_ge (x :: t) b (k + 1) = hg_ge t b k := by
        by_cases q : k = t.length
        · rw [q, hg_geL]; exact hg_geL (R := x :: t)
        · rw [hg_gek (R := t) (by omega), hg_gek (R := x :: t) (by rw [List.length_cons]; omega)]; rfl
      rw [e] at h3
      cases k with
      | zero => rw [if_pos rfl]; exact h3
      | succ k => rw [if_neg (Nat.succ_ne_zero k), hg_gbs]; exact h3
theorem hg_C_to {b n : Nat → Nat} : ∀ (R : List Nat) (lo : Nat), hg_C b n lo R → (∀ k, k ≤ R.length → (if k = 0 then lo else hg_gb R b n k) ≤ hg_ge R b k) ∧ (∀ k, k < R.length → 1 ≤ n (hg_at R k)) := by
  intro R
  induction R with
  | nil =>
    intro lo h
    refine ⟨fun k hk => ?_, fun k hk => absurd hk (Nat.not_lt_zero _)⟩
    have : k = 0 := Nat.le_zero.mp hk
    subst this
    rw [if_pos rfl]; exact h
  | cons x t ih =>
    intro lo h
    obtain ⟨h1, h2, h3⟩ := h
    obtain ⟨i1, i2⟩ := ih _ h3
    refine ⟨fun k hk => ?_, fun k hk => ?_⟩
    · cases k with
      | zero => rw [if_pos rfl, hg_gek (Nat.zero_lt_succ _)]; exact h1
      | succ k =>
        have h4 := i1 k (Nat.le_of_succ_le_succ hk)
        have e : hg_ge (x :: t) b (k + 1) = hg_ge t b k := by
          by_cases q : k = t.length
          · rw [q, hg_geL]; exact hg_geL (R := x :: t)
          · rw [hg_gek (R := t) (by rw [List.length_cons] at hk; omega), hg_gek (R := x :: t) (by rw [List.length_cons] at hk ⊢; omega)]; rfl
        rw [if_neg (Nat.succ_ne_zero k), hg_gbs, e]
        cases k with
        | zero => rw [if_pos rfl] at h4; exact h4
        | succ k => rw [if_neg (Nat.succ_ne_zero k), hg_gbs] at h4; exact h4
    · cases k with
      | zero => exact h2
      | succ k => exact i2 k (Nat.lt_of_succ_lt_succ hk)
theorem hg_IC {R : List Nat} {b n : Nat → Nat} : hg_I R b n ↔ hg_C b n 0 R := by
  constructor
  · intro h
    refine hg_C_of R 0 (fun k hk => ?_) h.2
    have h1 := h.1 k hk
    cases k with
    | zero => rw [if_pos rfl]; exact h1
    | succ k => rw [if_neg (Nat.succ_ne_zero k)]; exact h1
  · intro h
    obtain ⟨h1, h2⟩ := hg_C_to R 0 h
    refine ⟨fun k hk => ?_, h2⟩
    have h3 := h1 k hk
    cases k with
    | zero => rw [if_pos rfl] at h3; exact h3
    | succ k => rw [if_neg (Nat.succ_ne_zero k)] at h3; exact h3
/-- a handle leaves the row -/
def hg_out (R : List Nat) (h : Nat) : List Nat := R.filter (fun x => decide (x ≠ h))
theorem hg_out_mem {R : List Nat} {h x : Nat} : x ∈ hg_out R h ↔ x ∈ R ∧ x ≠ h := by
  unfold hg_out; rw [List.mem_filter]; simp
theorem hg_C_out {b n : Nat → Nat} {h : Nat} : ∀ {R : List Nat} {lo : Nat}, hg_C b n lo R → hg_C b n lo (hg_out R h) := by
  intro R
  induction R with
  | nil => intro lo q; exact q
  | cons x t ih =>
    intro lo q
    obtain ⟨q1, q2, q3⟩ := q
    by_cases e : x = h
    · have e2 : hg_out (x :: t) h = hg_out t h := by unfold hg_out; rw [List.filter_cons_of_neg (by simp [e])]
      rw [e2]
      exact ih (hg_C_mono (by omega) q3)
    · have e2 : hg_out (x :: t) h = x :: hg_out t h := by unfold hg_out; rw [List.filter_cons_of_pos (by simp [e])]
      rw [e2]
      exact ⟨q1, q2, ih q3⟩
theorem hg_C_congr {b n b' n' : Nat → Nat} : ∀ {R : List Nat} {lo : Nat}, (∀ x ∈ R, b' x = b x) → (∀ x ∈ R, n' x = n x) → hg_C b n lo R → hg_C b' n' lo R := by
  intro R
  induction R with
  | nil => intro lo _ _ q; exact q
  | cons x t ih =>
    intro lo hb hn q
    obtain ⟨q1, q2, q3⟩ := q
    have e1 := hb x List.mem_cons_self
    have e2 := hn x List.mem_cons_self
    refine ⟨by rw [e1]; exact q1, by rw [e2]; exact q2, ?_⟩
    rw [e1, e2]
    exact ih (fun y hy => hb y (List.mem_cons_of_mem _ hy)) (fun y hy => hn y (List.mem_cons_of_mem _ hy)) q3
/-- a handle comes into the row, ahead of the first block that begins higher -/
def hg_ins (b : Nat → Nat) (h : Nat) : List Nat → List Nat
  | [] => [h]
  | x :: t => if b h < b x then h :: x :: t else x :: hg_ins b h t
theorem hg_ins_mem {b : Nat → Nat} {h x : Nat} : ∀ {R : List Nat}, x ∈ hg_ins b h R ↔ x = h ∨ x ∈ R := by
  intro R
  induction R with
  | nil => simp [hg_ins]
  | cons y t ih =>
    unfold hg_ins
    by_cases q : b h < b y
    · rw [if_pos q]; simp
    · rw [if_neg q, List.mem_cons, ih, List.mem_cons]
      constructor
      · rintro (h1 | h1 | h1)
        · exact Or.inr (Or.inl h1)
        · exact Or.inl h1
        · exact Or.inr (Or.inr h1)
      · rintro (h1 | h1 | h1)
        · exact Or.inr (Or.inl h1)
        · exact Or.inl h1
        · exact Or.inr (Or.inr h1)
theorem hg_ins_len {b : Nat → Nat} {h : Nat} : ∀ {R : List Nat}, (hg_ins b h R).length = R.length + 1 := by
  intro R
  induction R with
  | nil => rfl
  | cons y t ih =>
    unfold hg_ins
    by_cases q : b h < b y
    · rw [if_pos q]; rfl
    · rw [if_neg q, List.length_cons, ih]; rfl
theorem hg_C_ins {b n : Nat → Nat} {h : Nat} (hn : 1 ≤ n h) (he : b h + n h ≤ 1024) : ∀ {R : List Nat} {lo : Nat}, hg_C b n lo R → lo ≤ b h → (∀ x ∈ R, b x + n x ≤ b h ∨ b h + n h ≤ b x) → hg_C b n lo (hg_ins b h R) := by
  intro R
  induction R with
  | nil => intro lo q hlo _; exact ⟨hlo, hn, he⟩
  | cons y t ih =>
    intro lo q hlo ha
    obtain ⟨q1, q2, q3⟩ := q
    have hy := ha y List.mem_cons_self
    unfold hg_ins
    by_cases z : b h < b y
    · rw [if_pos z]
      exact ⟨hlo, hn, by omega, q2, q3⟩
    · rw [if_neg z]
      exact ⟨q1, q2, ih q3 (by omega) (fun x hx => ha x (List.mem_cons_of_mem _ hx))⟩
theorem hg_I_out {R : List Nat} {b n : Nat → Nat} {h : Nat} (hI : hg_I R b n) : hg_I (hg_out R h) b n := hg_IC.mpr (hg_C_out (hg_IC.mp hI))
theorem hg_I_ins {R : List Nat} {b n : Nat → Nat} {h : Nat} (hI : hg_I R b n) (hn : 1 ≤ n h) (he : b h + n h ≤ 1024) (ha : ∀ x ∈ R, b x + n x ≤ b h ∨ b h + n h ≤ b x) : hg_I (hg_ins b h R) b n := hg_IC.mpr (hg_C_ins hn he (hg_IC.mp hI) (Nat.zero_le _) ha)
theorem hg_I_cg {R : List Nat} {b n b' n' : Nat → Nat} (hI : hg_I R b n) (hb : ∀ x ∈ R, b' x = b x) (hn : ∀ x ∈ R, n' x = n x) : hg_I R b' n' := hg_IC.mpr (hg_C_congr hb hn (hg_IC.mp hI))
/-- block k goes to the byte a, within what is free about it -/
theorem hg_I_move {R : List Nat} {b n : Nat → Nat} (hI : hg_I R b n) {k a : Nat} (hk : k < R.length) (h1 : hg_gb R b n k ≤ a) (h2 : a + n (hg_at R k) ≤ hg_ge R b (k + 1)) : hg_I R (va_up b (hg_at R k) a) n := by
  have eb : ∀ i, i < R.length → va_up b (hg_at R k) a (hg_at R i) = if i = k then a else b (hg_at R i) := by
    intro i hi
    by_cases q : i = k
    · subst q; rw [if_pos rfl, va_up_self]
    · rw [if_neg q, va_up_ne _ _ (fun e => q (hg_inj hI hi hk e))]
  refine ⟨fun j hj => ?_, hI.2⟩
  have g1 : hg_gb R (va_up b (hg_at R k) a) n j = if j = k + 1 then a + n (hg_at R k) else hg_gb R b n j := by
    cases j with
    | zero => rw [if_neg (by omega)]; rfl
    | succ i =>
      rw [hg_gbs, hg_gbs, eb i (by omega)]
      by_cases q : i = k
      · subst q; rw [if_pos rfl, if_pos rfl]
      · rw [if_neg q, if_neg (by omega)]
  have g2 : hg_ge R (va_up b (hg_at R k) a) j = if j = k then a else hg_ge R b j := by
    by_cases q : j = R.length
    · rw [q, hg_geL, if_neg (by omega), hg_geL]
    · rw [hg_gek (by omega), eb j (by omega)]
      by_cases q2 : j = k
      · rw [if_pos q2, if_pos q2]
      · rw [if_neg q2, if_neg q2, hg_gek (by omega)]
  rw [g1, g2]
  by_cases q : j = k + 1
  · subst q; rw [if_pos rfl, if_neg (by omega)]; exact h2
  · rw [if_neg q]
    by_cases q2 : j = k
    · subst q2; rw [if_pos rfl]; exact h1
    · rw [if_neg q2]; exact hI.1 j hj
/-- TO SLIDE: where the blocks begin when the first k of the row have been slid, and how many bytes have been moved -/
def hg_slb (R : List Nat) (n : Nat → Nat) (mv : Nat → Bool) (b : Nat → Nat) : Nat → (Nat → Nat)
  | 0 => b
  | k + 1 => if mv (hg_at R k) = true then va_up (hg_slb R n mv b k) (hg_at R k) (hg_gb R (hg_slb R n mv b k) n k) else hg_slb R n mv b k
def hg_slm (R : List Nat) (n : Nat → Nat) (mv : Nat → Bool) (b : Nat → Nat) (m : Int32) : Nat → Int32
  | 0 => m
  | k + 1 => if mv (hg_at R k) = true ∧ hg_gb R (hg_slb R n mv b k) n k ≠ b (hg_at R k) then hg_slm R n mv b m k + nI (n (hg_at R k)) else hg_slm R n mv b m k
theorem hg_sl_I {R : List Nat} {b n : Nat → Nat} {mv : Nat → Bool} (hI : hg_I R b n) : ∀ k, k ≤ R.length → hg_I R (hg_slb R n mv b k) n ∧ ∀ i, k ≤ i → i < R.length → hg_slb R n mv b k (hg_at R i) = b (hg_at R i) := by
  intro k
  induction k with
  | zero => intro _; exact ⟨hI, fun _ _ _ => rfl⟩
  | succ k ih =>
    intro hk
    obtain ⟨i1, i2⟩ := ih (by omega)
    unfold hg_slb
    by_cases q : mv (hg_at R k) = true
    · rw [if_pos q]
      have h3 := hg_lo i1 (k := k) (by omega)
      have h4 := i1.1 (k + 1) hk
      rw [hg_gbs] at h4
      refine ⟨hg_I_move i1 (by omega) (Nat.le_refl _) (by omega), fun i hi hl => ?_⟩
      rw [va_up_ne _ _ (fun e => by have := hg_inj hI hl (by omega) e; omega)]
      exact i2 i (by omega) hl
    · rw [if_neg q]
      exact ⟨i1, fun i hi hl => i2 i (by omega) hl⟩
theorem hg_sl_out {R : List Nat} {b n : Nat → Nat} {mv : Nat → Bool} {x : Nat} (hx : x ∉ R) : ∀ k, k ≤ R.length → hg_slb R n mv b k x = b x := by
  intro k
  induction k with
  | zero => intro _; rfl
  | succ k ih =>
    intro hk
    unfold hg_slb
    by_cases q : mv (hg_at R k) = true
    · rw [if_pos q, va_up_ne _ _ (fun e => hx (by rw [e]; exact hg_at_mem (by omega)))]
      exact ih (by omega)
    · rw [if_neg q]; exact ih (by omega)
end
section
/-! THE WHOLE STATE: (R, b, n, u, f, l, o, y, m, x): the row; where a block begins; how many bytes it has; 0 unused, 1 empty, 2 has a block; fixed, locked, losable; its bytes; bytes moved, blocks lost -/
abbrev hs_S : Type := List Nat × (Nat → Nat) × (Nat → Nat) × (Nat → Nat) × (Nat → Bool) × (Nat → Bool) × (Nat → Bool) × (Nat → Nat → Int32) × Int32 × Int32
def hs_R (S : hs_S) : List Nat := S.1
def hs_b (S : hs_S) : Nat → Nat := S.2.1
def hs_n (S : hs_S) : Nat → Nat := S.2.2.1
def hs_u (S : hs_S) : Nat → Nat := S.2.2.2.1
def hs_f (S : hs_S) : Nat → Bool := S.2.2.2.2.1
def hs_l (S : hs_S) : Nat → Bool := S.2.2.2.2.2.1
def hs_o (S : hs_S) : Nat → Bool := S.2.2.2.2.2.2.1
def hs_y (S : hs_S) : Nat → Nat → Int32 := S.2.2.2.2.2.2.2.1
def hs_m (S : hs_S) : Int32 := S.2.2.2.2.2.2.2.2.1
def hs_x (S : hs_S) : Int32 := S.2.2.2.2.2.2.2.2.2
def hs_mv (S : hs_S) (h : Nat) : Bool := !hs_f S h && !hs_l S h
def hs_gb (S : hs_S) (k : Nat) : Nat := hg_gb (hs_R S) (hs_b S) (hs_n S) k
def hs_gl (S : hs_S) (k : Nat) : Nat := hg_gl (hs_R S) (hs_b S) (hs_n S) k
/-- what always holds between two calls -/
def hs_I (S : hs_S) : Prop := hg_I (hs_R S) (hs_b S) (hs_n S) ∧ (∀ h, h ∈ hs_R S ↔ (h < 48 ∧ hs_u S h = 2)) ∧ ∀ h, h < 48 → hs_u S h ≠ 2 → hs_n S h = 0 ∧ hs_u S h < 2
def hs_slk (S : hs_S) (k : Nat) : hs_S := (hs_R S, hg_slb (hs_R S) (hs_n S) (hs_mv S) (hs_b S) k, hs_n S, hs_u S, hs_f S, hs_l S, hs_o S, hs_y S, hg_slm (hs_R S) (hs_n S) (hs_mv S) (hs_b S) (hs_m S) k, hs_x S)
/-- the heap slid together -/
def hs_sl (S : hs_S) : hs_S := hs_slk S (hs_R S).length
/-- the first gap that has n bytes, from gap k on, of d more -/
def hs_fk (S : hs_S) (n : Nat) : Nat → Nat → Option Nat
  | 0, _ => none
  | d + 1, k => if n ≤ hs_gl S k then some k else hs_fk S n d (k + 1)
def hs_pk (S : hs_S) (n : Nat) : Option Nat := hs_fk S n ((hs_R S).length + 1) 0
/-- the first block that may be lost, from block k on, of d more; but: the handle that asks (48: none) -/
def hs_lf (S : hs_S) (but : Nat) : Nat → Nat → Option Nat
  | 0, _ => none
  | d + 1, k => if hg_at (hs_R S) k ≠ but ∧ hs_o S (hg_at (hs_R S) k) = true ∧ hs_mv S (hg_at (hs_R S) k) = true then some (hg_at (hs_R S) k) else hs_lf S but d (k + 1)
def hs_l1 (S : hs_S) (but : Nat) : Option Nat := hs_lf S but (hs_R S).length 0
/-- the block of h goes: its handle is v then -/
def hs_tk (S : hs_S) (h v : Nat) : hs_S := (hg_out (hs_R S) h, hs_b S, va_up (hs_n S) h 0, va_up (hs_u S) h v, hs_f S, hs_l S, hs_o S, hs_y S, hs_m S, hs_x S)
/-- it is lost -/
def hs_gu (S : hs_S) (h : Nat) : hs_S := (hg_out (hs_R S) h, hs_b S, va_up (hs_n S) h 0, va_up (hs_u S) h 1, hs_f S, hs_l S, hs_o S, hs_y S, hs_m S, hs_x S + 1)
/-- ROOM, once the heap has been slid: lose, slide, look, at most so often -/
def hs_rm (n but : Nat) : Nat → hs_S → hs_S × Option Nat
  | 0, S => (S, hs_pk S n)
  | d + 1, S => match hs_pk S n with
    | some k => (S, some k)
    | none => match hs_l1 S but with
      | none => (S, none)
      | some h => hs_rm n but d (hs_sl (hs_gu S h))
def hs_room (S : hs_S) (n but : Nat) : hs_S × Option Nat := match hs_pk S n with
  | some k => (S, some k)
  | none => hs_rm n but 48 (hs_sl S)
/-- a new block of n bytes at the byte a -/
def hs_mk (S : hs_S) (h a n : Nat) (fx : Bool) : hs_S := (hg_ins (va_up (hs_b S) h a) h (hs_R S), va_up (hs_b S) h a, va_up (hs_n S) h n, va_up (hs_u S) h 2, va_up (hs_f S) h fx, va_up (hs_l S) h false, va_up (hs_o S) h false, va_up (hs_y S) h (fun _ => 0), hs_m S, hs_x S)
/-- the block gets n bytes where it stands -/
def hs_sz (S : hs_S) (h n : Nat) : hs_S := (hs_R S, hs_b S, va_up (hs_n S) h n, hs_u S, hs_f S, hs_l S, hs_o S, va_up (hs_y S) h (fun i => if hs_n S h ≤ i then 0 else hs_y S h i), hs_m S, hs_x S)
/-- it goes to the byte a -/
def hs_go (S : hs_S) (h a : Nat) : hs_S := (hs_R S, va_up (hs_b S) h a, hs_n S, hs_u S, hs_f S, hs_l S, hs_o S, hs_y S, if a = hs_b S h then hs_m S else hs_m S + nI (hs_n S h), hs_x S)
/-- it goes to the byte a, its place in the row being another, and grows there to n bytes -/
def hs_gr (S : hs_S) (h a n : Nat) : hs_S := (hg_ins (va_up (hs_b S) h a) h (hg_out (hs_R S) h), va_up (hs_b S) h a, va_up (hs_n S) h n, hs_u S, hs_f S, hs_l S, hs_o S, va_up (hs_y S) h (fun i => if hs_n S h ≤ i then 0 else hs_y S h i), hs_m S + nI (hs_n S h), hs_x S)
def hs_mx (S : hs_S) : Nat → Nat
  | 0 => 0
  | k + 1 => max (hs_mx S k) (hs_gl S k)
/-- the greatest free block -/
def hs_gg (S : hs_S) : Nat := hs_mx S ((hs_R S).length + 1)
def hs_sm (S : hs_S) : Nat → Nat
  | 0 => 0
  | k + 1 => hs_sm S k + hs_gl S k
def hs_ct (S : hs_S) : Nat → Nat
  | 0 => 0
  | k + 1 => if 0 < hs_gl S k then hs_ct S k + 1 else hs_ct S k
/-- clear: at most d times more, k having been lost -/
def hs_cl (n : Nat) : Nat → hs_S → Nat → hs_S × Nat
  | 0, S, k => (S, k)
  | d + 1, S, k => if hs_gg S < n then (match hs_l1 S 48 with
      | none => (S, k)
      | some h => hs_cl n d (hs_sl (hs_gu S h)) (k + 1)) else (S, k)
/-- how many handles, of the first k, are in the state v -/
def hs_cn (u : Nat → Nat) (v : Nat) : Nat → Nat
  | 0 => 0
  | k + 1 => if u k = v then hs_cn u v k + 1 else hs_cn u v k
/-- the least unused handle at or above k, of d more -/
def hs_lu (u : Nat → Nat) (k : Nat) : Nat → Option Nat
  | 0 => none
  | d + 1 => if u k = 0 then some k else hs_lu u (k + 1) d
end
section
/-! THROWING: what a throw of ours needs of the tables and of two statics; contracts that return or throw -/
def xz_W : List Cond := [.declares (Bundle.initS "java/lang/RuntimeException"), .declares (Bundle.initS "java/lang/Exception"), .declares (Bundle.initS Bundle.tN), .castable "java/lang/IllegalArgumentException" "java/lang/IllegalArgumentException", .castable "java/lang/IllegalStateException" "java/lang/IllegalStateException", .castable "java/lang/IndexOutOfBoundsException" "java/lang/IndexOutOfBoundsException"]
def xz_s : List (Nat × String) := [(90, "the block is not movable"), (106, "n is not 0 to 1024"), (115, "v is not 0 to 255"), (132, "what is not 0 to 6"), (134, "handle is not 0 to 47"), (136, "the handle is unused"), (138, "the handle is empty"), (140, "n is not 1 to 1024"), (144, "there is no such byte")]
def xz (A : Nat → Prop) (U : State) (H : Heap) : Prop := (∀ w ∈ xz_W, va_Nw w U) ∧ (∀ q ∈ xz_s, ∃ sa, vk_R RX0 q.1 q.2 sa U) ∧ vx_Zq Bundle.tN "UNASSIGNED_STACK" Bundle.steD A U H ∧ vx_Zq Bundle.tN "SUPPRESSED_SENTINEL" Bundle.listD A U H
theorem xz.moved {A : Nat → Prop} {s U : State} {H : Heap} (hW : s.WarmedH U.vm) (h : xz A s H) : xz A U H := by
  obtain ⟨h1, h2, h3, h4⟩ := h
  refine ⟨fun w hw => ?_, fun q hq => ?_, h3.moved hW.alike, h4.moved hW.alike⟩
  · have h9 := h1 w hw
    simp only [xz_W, List.mem_cons, List.not_mem_nil, or_false] at hw
    rcases hw with rfl | rfl | rfl | rfl | rfl | rfl
    · exact va_Nw.warmD hW h9
    · exact va_Nw.warmD hW h9
    · exact va_Nw.warmD hW h9
    · exact va_Nw.warmC hW h9
    · exact va_Nw.warmC hW h9
    · exact va_Nw.warmC hW h9
  · obtain ⟨sa, h9⟩ := h2 q hq
    exact ⟨sa, h9.warm hW⟩
theorem xz.kept {A : Nat → Prop} {U : State} {H H1 : Heap} (h : xz A U H) (hq : ∀ a : Nat, a < H.size → ¬ A a → H1[a]? = H[a]?) : xz A U H1 := ⟨h.1, h.2.1, h.2.2.1.kept hq, h.2.2.2.kept hq⟩
theorem xz.narrow {A B : Nat → Prop} {U : State} {H : Heap} (h : xz A U H) (hAB : ∀ q, B q → A q) : xz B U H := ⟨h.1, h.2.1, h.2.2.1.narrow hAB, h.2.2.2.narrow hAB⟩
def gx_P (G : gs_G) (ws : va_W) (sz : Nat) (U : State) : Prop := gm_P G ws sz U ∧ xz (va_A ws sz) U U.heap
def gx_X (G : gs_G) (ws : va_W) (xE : String → Prop) (sz : Nat) : String → State → State → Prop := vx_X (fun _ : Unit => True) (fun E _ t => xE E ∧ gm_B G ws sz ws t) (va_A ws sz)
def gx_i {ρ : Type} (l : Launch) (y : MethodName) (wy : List Cond) (rm : Room) (G : gs_G) (w : ρ → va_W) (r : ρ) (av : List Value) (post : Int32 → ρ → Prop) (xE : String → Prop) (mc ms : Nat) : Prop :=
  ∀ sz : Nat, vx_Met l y wy rm (va_Pc av (gx_P G (w r) sz)) (va_Qi post (fun u t => gm_B G (w r) sz (w u) t) (va_A (w r) sz)) (gx_X G (w r) xE sz) mc ms (va_A (w r) sz)
def gx_v {ρ : Type} (l : Launch) (y : MethodName) (wy : List Cond) (rm : Room) (G : gs_G) (w : ρ → va_W) (r : ρ) (av : List Value) (post : ρ → Prop) (xE : String → Prop) (mc ms : Nat) : Prop :=
  ∀ sz : Nat, vx_Met l y wy rm (va_Pc av (gx_P G (w r) sz)) (va_Qv post (fun u t => gm_B G (w r) sz (w u) t) (va_A (w r) sz)) (gx_X G (w r) xE sz) mc ms (va_A (w r) sz)
theorem gx_blind {G : gs_G} {ws : va_W} {av : List Value} {sz : Nat} : FrameBlind (va_Pc av (gx_P G ws sz)) := fun a U g mk q => by
  obtain ⟨q0, q1, q2⟩ := q
  obtain ⟨-, q3⟩ := gm_blind (G := G) (ws := ws) (av := av) (sz := sz) a U g mk ⟨q0, q1⟩
  exact ⟨q0, q3, xz.moved (s := U) (U := U.calling g mk a) (State.WarmedH.refl U) q2⟩
section GXB
variable {ρ : Type} {l : Launch} {y : MethodName} {wy ws' : List Cond} {rm : Room} {G : gs_G} {w : ρ → va_W} {r : ρ} {av : List Value} {mc ms : Nat} {cc : ByteArray} {nL : Nat} {ret : Option FieldType} {xE : String → Prop}
theorem gx_i.of {post : Int32 → ρ → Prop} (hy : plainName y.cls = true) (hw : wy = Cond.code y cc nL ret :: ws') (hlen : (lg_sl av).length ≤ nL)
    (body : ∀ (p : Program) (e : Env) (s : State) (m : MethodId) (args : Array Value) (below : List Frame) (meth : Method) (c : Code) (ls : Array Slot), gm_C p s m args meth c cc nL ret wy y.cls → gs_Z G (w r) (va_A (w r) s.heap.size) s s.heap [] → xz (va_A (w r) s.heap.size) s s.heap → lv_has ls nL (lv_args 0 av) →
      W p l e rm s m args below meth c s.heap [] 0 0 (vx_MQ below (va_Qi post (fun u t => gm_B G (w r) s.heap.size (w u) t) (va_A (w r) s.heap.size)) (gx_X G (w r) xE s.heap.size) args s mc ms (va_A (w r) s.heap.size)) (F0 m 0 ls [])) : gx_i l y wy rm G w r av post xE mc ms := by
  intro sz
  refine vx_ofW (cc := cc) (maxL := nL) (ret := ret) hy hw ?_
  intro p e s m args below meth c s₁ B hml ht hv
  obtain ⟨rfl, hv, hxz⟩ := hv
  obtain ⟨rfl, hz⟩ := gs_entry hv
  have hts := atoms_spec (ws := wy) B.pre
  have hl := lv_entry av (n := nL) hlen
  rw [lg_entry_eq]
  exact body p e s m av.toArray below meth c _ ⟨⟨B.exec, B.bytes, hml, findClass_of_methodNamed B.named, hts⟩, B.returns, B.notSynchronized, ht⟩ hz hxz hl
theorem gx_v.of {post : ρ → Prop} (hy : plainName y.cls = true) (hw : wy = Cond.code y cc nL ret :: ws') (hlen : (lg_sl av).length ≤ nL)
    (body : ∀ (p : Program) (e : Env) (s : State) (m : MethodId) (args : Array Value) (below : List Frame) (meth : Method) (c : Code) (ls : Array Slot), gm_C p s m args meth c cc nL ret wy y.cls → gs_Z G (w r) (va_A (w r) s.heap.size) s s.heap [] → xz (va_A (w r) s.heap.size) s s.heap → lv_has ls nL (lv_args 0 av) →
      W p l e rm s m args below meth c s.heap [] 0 0 (vx_MQ below (va_Qv post (fun u t => gm_B G (w r) s.heap.size (w u) t) (va_A (w r) s.heap.size)) (gx_X G (w r) xE s.heap.size) args s mc ms (va_A (w r) s.heap.size)) (F0 m 0 ls [])) : gx_v l y wy rm G w r av post xE mc ms := by
  intro sz
  refine vx_ofW (cc := cc) (maxL := nL) (ret := ret) hy hw ?_
  intro p e s m args below meth c s₁ B hml ht hv
  obtain ⟨rfl, hv, hxz⟩ := hv
  obtain ⟨rfl, hz⟩ := gs_entry hv
  have hts := atoms_spec (ws := wy) B.pre
  have hl := lv_entry av (n := nL) hlen
  rw [lg_entry_eq]
  exact body p e s m av.toArray below meth c _ ⟨⟨B.exec, B.bytes, hml, findClass_of_methodNamed B.named, hts⟩, B.returns, B.notSynchronized, ht⟩ hz hxz hl
end GXB
section GXS
variable {p : Program} {l : Launch} {e : Env} {R : Room} {s : State} {m : MethodId} {args : Array Value} {below : List Frame} {meth : Method} {c : Code} {H : Heap} {locs : List Loc} {cells slots : Nat} {Q : State → Prop}
variable {cc : ByteArray} {pc : Nat} {ls : Array Slot} {rest : List Value} {G : gs_G} {ws wr : va_W} {A : Nat → Prop} {a : Nat}
/-- throw new E("text"), E one of our three; nothing has been written -/
theorem gs_throw {Qc : Array Value → State → Outcome → State → Prop} {nL : Nat} {ret : Option FieldType} {wy : List Cond} {ik is ic mc ms : Nat} {cls text : String} {xE : String → Prop} (C0 : gm_C p s m args meth c cc nL ret wy RX0) (hl : l.stackTraces = false)
    (hz : gs_Z G ws (va_A ws s.heap.size) s H locs) (hxz : xz (va_A ws s.heap.size) s s.heap) (hx : xE cls) (hE : cls = "java/lang/IllegalArgumentException" ∨ cls = "java/lang/IllegalStateException" ∨ cls = "java/lang/IndexOutOfBoundsException") (ht : (is, text) ∈ xz_s)
    (hk : (Cond.classLink RX0 ik cls).before args s = true) (hini : (Cond.initialized cls).before args s = true) (hg : ∀ w ∈ (vx_atS RX0 ic cls ["java/lang/RuntimeException", "java/lang/Exception"]).filter goodWord, w.before args s = true)
    (hbad : ∀ w ∈ (vx_atS RX0 ic cls ["java/lang/RuntimeException", "java/lang/Exception"]).filter (fun w => !goodWord w), w ∈ xz_W) (hgood : ∀ w ∈ Cond.classLink RX0 ik cls :: Cond.initialized cls :: vx_atS RX0 ic cls ["java/lang/RuntimeException", "java/lang/Exception"], vx_ot w = true)
    (hsize : ls.size = nL) (d0 : decode cc pc = .ok (.new ik, 3)) (d3 : decode cc (pc + 3) = .ok (.dup, 1)) (d4 : decode cc (pc + 4) = .ok (.ldc is, 2)) (d6 : decode cc (pc + 6) = .ok (.invokespecial ic, 3)) (d9 : decode cc (pc + 9) = .ok (.athrow, 1))
    (hRf : 5 < R.frames) (hRl : (rest.map fun v => v.category).sum + 82 ≤ R.locals) (hRc : cells + 1 ≤ R.cells) (hRs : slots + 6 ≤ R.slots) (hc : cells + 1 ≤ mc) (hs : slots + 6 ≤ ms) :
    W p l e R s m args below meth c H locs cells slots (vx_MQ below Qc (gx_X G ws xE s.heap.size) args s mc ms (va_A ws s.heap.size)) (F0 m pc ls rest) := by
  obtain ⟨⟨hx0, hb, hml, hown, hts⟩, -, hlocks, htab⟩ := C0
  obtain ⟨sa, hsa⟩ := hxz.2.1 _ ht
  have hfit : Bundle.fit cls = true := by rcases hE with rfl | rfl | rfl <;> decide +kernel
  refine vx_throwS hx0 hb hl (own := RX0) (cls := cls) (text := text) (names := ["java/lang/RuntimeException", "java/lang/Exception"]) (A := va_A ws s.heap.size) hown hfit (by decide +kernel) hk hini hsa ?_ hgood hxz.2.2.1 hxz.2.2.2 hz.2.2.2.1 (by rw [hml]; exact hsize) d0 d3 d4 d6 d9 (fun x hx9 => (htab x hx9).elim) hRf hRl hRc hRs hlocks ?_ hz.2.2.2.1.2.2 hc hs
  · exact vx_hat hg hbad (fun w hw => va_Nw.use (by
      simp only [xz_W, List.mem_cons, List.not_mem_nil, or_false] at hw
      rcases hw with rfl | rfl | rfl | rfl | rfl | rfl <;> rfl) (hxz.1 w hw))
  · intro t hvm hsz hkeep
    have hP : va_P G.1 xcl ws t.heap := hz.2.1.kept (fun k q h => hkeep q.1 ((hz.2.1 k q h).lt))
    refine ⟨(), trivial, ⟨hx, hP, va_K.moved hvm hz.1, hz.2.2.1⟩, Nat.le_trans hz.2.2.2.1.1 hsz, fun q h1 h2 => ?_⟩
    rw [hkeep q (Nat.lt_of_lt_of_le h1 hz.2.2.2.1.1)]
    exact hz.2.2.2.1.2.1 q h1 h2
theorem gs_xpre (hz : gs_Z G (ws ++ wr) A s H locs) (hxz : xz A s s.heap) {av : List Value} : ∀ U : State, U.heap = H → s.WarmedH U.vm → va_Pc av (gx_P G ws H.size) av.toArray U := fun U hU hW => by
  obtain ⟨h1, h2⟩ := gs_pre hz (av := av) U hU hW
  refine ⟨h1, h2, ?_⟩
  have h3 : xz A s H := hxz.kept (fun a ha hA => hz.2.2.2.1.2.1 a ha hA)
  rw [hU]
  exact (h3.moved hW).narrow (gs_F1 hz)
section CALLX
variable {ρ : Type} {w : ρ → va_W} {r : ρ} {y : MethodName} {bytes : ByteArray} {maxL nL mc ms n index : Nat} {ret : Option FieldType} {wy Ts : List Cond} {rm : Room} {own C : String} {b : Nat} {As st0 : List Value} {xE : String → Prop}
theorem gx_callVi {post : Int32 → ρ → Prop} (S : CallFix p m c cc nL s args Ts own) (hM : gx_i l y wy rm G w r (.ref b :: As) post xE mc ms) (cw : CallW R s args own C index y bytes maxL ret wy rm mc ms n) {ci : Nat} {fs : List Value} {q : vw_C} (he : (w r)[0]? = some (b, .inr (ci, fs))) (hc : xcl[ci]? = some q) (hq : q.1 = C)
    (hz : gs_Z G (w r ++ wr) A s H locs) (hxz : xz A s s.heap) (hn : As.length = n) (hsize : ls.size = nL) (hst : st0 = As.reverse ++ .ref b :: rest) (hW : (rest.map fun v => v.category).sum ≤ 8) (hdg : decode cc pc = .ok (.invokevirtual index, 3)) (hf : cells + mc ≤ R.cells ∧ slots + ms ≤ R.slots)
    (kx : ∀ (E : String) (ce : Cell) (q9 : Addr) (H1 : Heap) (locs1 : List Loc), xE E → gs_Z G (w r ++ wr) A s H1 locs1 → H1[q9]? = some ce → ce.vm = .none → s.vm.findClass E = some ce.cls → vx_W p l e R s m args below meth c H1 locs1 (cells + mc) (slots + ms) Q (F0 m pc ls rest) q9)
    (kk : ∀ (res : Int32) (u : ρ) (H1 : Heap) (locs1 : List Loc), post res u → gs_Z G (w u ++ wr) A s H1 locs1 → W p l e R s m args below meth c H1 locs1 (cells + mc) (slots + ms) Q (F0 m (pc + 3) ls (.int res :: rest))) : W p l e R s m args below meth c H locs cells slots Q (F0 m pc ls st0) := by
  have hrecv := va_recv hz.1 (gs_P1 hz) hc he
  rw [hq] at hrecv
  refine vx_calli (vx_runV (As := As) (rest := rest) S (hM H.size) cw ⟨gx_blind, hrecv, gs_xpre hz hxz⟩ rfl hn hsize hst (lv_room hW) hdg hf) hz.2.2.2.1 (fun q _ h => gs_F1 hz q h) (gs_F1 hz) (fun q _ h => gs_F1 hz q h) (fun E ce q9 u t H1 locs1 ht hvm hp hB hz1 hk1 hS hce hcv hcl => ?_) (fun res u t H1 locs1 ht hvm hw hB hz1 hk1 hS => ?_)
  · obtain ⟨hE, hP1, hK1, hD1⟩ := hB
    rw [ht] at hP1
    exact kx E ce q9 H1 locs1 hE (gs_back hz hk1 hP1 hD1 hS) hce hcv hcl
  · obtain ⟨hP1, hK1, hD1⟩ := hB
    rw [ht] at hP1
    exact kk res u H1 locs1 hw (gs_back hz hk1 hP1 hD1 hS)
theorem gx_callVv {post : ρ → Prop} (S : CallFix p m c cc nL s args Ts own) (hM : gx_v l y wy rm G w r (.ref b :: As) post xE mc ms) (cw : CallW R s args own C index y bytes maxL ret wy rm mc ms n) {ci : Nat} {fs : List Value} {q : vw_C} (he : (w r)[0]? = some (b, .inr (ci, fs))) (hc : xcl[ci]? = some q) (hq : q.1 = C)
    (hz : gs_Z G (w r ++ wr) A s H locs) (hxz : xz A s s.heap) (hn : As.length = n) (hsize : ls.size = nL) (hst : st0 = As.reverse ++ .ref b :: rest) (hW : (rest.map fun v => v.category).sum ≤ 8) (hdg : decode cc pc = .ok (.invokevirtual index, 3)) (hf : cells + mc ≤ R.cells ∧ slots + ms ≤ R.slots)
    (kx : ∀ (E : String) (ce : Cell) (q9 : Addr) (H1 : Heap) (locs1 : List Loc), xE E → gs_Z G (w r ++ wr) A s H1 locs1 → H1[q9]? = some ce → ce.vm = .none → s.vm.findClass E = some ce.cls → vx_W p l e R s m args below meth c H1 locs1 (cells + mc) (slots + ms) Q (F0 m pc ls rest) q9)
    (kk : ∀ (u : ρ) (H1 : Heap) (locs1 : List Loc), post u → gs_Z G (w u ++ wr) A s H1 locs1 → W p l e R s m args below meth c H1 locs1 (cells + mc) (slots + ms) Q (F0 m (pc + 3) ls rest)) : W p l e R s m args below meth c H locs cells slots Q (F0 m pc ls st0) := by
  have hrecv := va_recv hz.1 (gs_P1 hz) hc he
  rw [hq] at hrecv
  refine vx_callv (vx_runV (As := As) (rest := rest) S (hM H.size) cw ⟨gx_blind, hrecv, gs_xpre hz hxz⟩ rfl hn hsize hst (lv_room hW) hdg hf) hz.2.2.2.1 (fun q _ h => gs_F1 hz q h) (gs_F1 hz) (fun q _ h => gs_F1 hz q h) (fun E ce q9 u t H1 locs1 ht hvm hp hB hz1 hk1 hS hce hcv hcl => ?_) (fun u t H1 locs1 ht hvm hw hB hz1 hk1 hS => ?_)
  · obtain ⟨hE, hP1, hK1, hD1⟩ := hB
    rw [ht] at hP1
    exact kx E ce q9 H1 locs1 hE (gs_back hz hk1 hP1 hD1 hS) hce hcv hcl
  · obtain ⟨hP1, hK1, hD1⟩ := hB
    rw [ht] at hP1
    exact kk u H1 locs1 hw (gs_back hz hk1 hP1 hD1 hS)
theorem gx_callSv {post : ρ → Prop} (S : CallFix p m c cc nL s args Ts own) (hM : gx_v l y wy rm G w r As post xE mc ms) (cw : CallB R s args own index y bytes maxL ret wy rm mc ms n ∧ (Cond.static y).before args s = true)
    (hz : gs_Z G (w r ++ wr) A s H locs) (hxz : xz A s s.heap) (hn : As.length = n) (hsize : ls.size = nL) (hst : st0 = As.reverse ++ rest) (hW : (rest.map fun v => v.category).sum ≤ 8) (hdg : decode cc pc = .ok (.invokestatic index, 3)) (hf : cells + mc ≤ R.cells ∧ slots + ms ≤ R.slots)
    (kx : ∀ (E : String) (ce : Cell) (q9 : Addr) (H1 : Heap) (locs1 : List Loc), xE E → gs_Z G (w r ++ wr) A s H1 locs1 → H1[q9]? = some ce → ce.vm = .none → s.vm.findClass E = some ce.cls → vx_W p l e R s m args below meth c H1 locs1 (cells + mc) (slots + ms) Q (F0 m pc ls rest) q9)
    (kk : ∀ (u : ρ) (H1 : Heap) (locs1 : List Loc), post u → gs_Z G (w u ++ wr) A s H1 locs1 → W p l e R s m args below meth c H1 locs1 (cells + mc) (slots + ms) Q (F0 m (pc + 3) ls rest)) : W p l e R s m args below meth c H locs cells slots Q (F0 m pc ls st0) := by
  refine vx_callv (vx_runS (As := As) (rest := rest) S (hM H.size) cw ⟨gx_blind, gs_xpre hz hxz⟩ rfl hn hsize hst (lv_room hW) hdg hf) hz.2.2.2.1 (fun q _ h => gs_F1 hz q h) (gs_F1 hz) (fun q _ h => gs_F1 hz q h) (fun E ce q9 u t H1 locs1 ht hvm hp hB hz1 hk1 hS hce hcv hcl => ?_) (fun u t H1 locs1 ht hvm hw hB hz1 hk1 hS => ?_)
  · obtain ⟨hE, hP1, hK1, hD1⟩ := hB
    rw [ht] at hP1
    exact kx E ce q9 H1 locs1 hE (gs_back hz hk1 hP1 hD1 hS) hce hcv hcl
  · obtain ⟨hP1, hK1, hD1⟩ := hB
    rw [ht] at hP1
    exact kk u H1 locs1 hw (gs_back hz hk1 hP1 hD1 hS)
end CALLX
/-- what a callee threw goes on to the caller; our world is as it was at the start -/
theorem gs_pass {Qc : Array Value → State → Outcome → State → Prop} {nL mc ms : Nat} {ret : Option FieldType} {wy : List Cond} {own E : String} {xE : String → Prop} {ce : Cell} {q9 : Addr} (C0 : gm_C p s m args meth c cc nL ret wy own) (hx : xE E) (hz : gs_Z G ws (va_A ws s.heap.size) s H locs) (hce : H[q9]? = some ce) (hcv : ce.vm = .none) (hcl : s.vm.findClass E = some ce.cls) (hc : cells ≤ mc) (hs : slots ≤ ms) :
    vx_W p l e R s m args below meth c H locs cells slots (vx_MQ below Qc (gx_X G ws xE s.heap.size) args s mc ms (va_A ws s.heap.size)) (F0 m pc ls rest) q9 :=
  vx_out (fun x hx9 => (C0.2.2.2 x hx9).elim) C0.2.2.1 hce hcv hcl (fun t ht hvm => ⟨(), trivial, ⟨hx, by rw [ht]; exact hz.2.1, va_K.moved hvm hz.1, hz.2.2.1⟩, hz.2.2.2.1.F ht⟩) hz.2.2.2.1.2.2 hc hs
end GXS
end
section
/-! static calls; the JDK's fills -/
section GST
variable {p : Program} {l : Launch} {e : Env} {R : Room} {s : State} {m : MethodId} {args : Array Value} {below : List Frame} {meth : Method} {c : Code} {H : Heap} {locs : List Loc} {cells slots : Nat} {Q : State → Prop}
variable {cc : ByteArray} {pc : Nat} {ls : Array Slot} {rest : List Value} {G : gs_G} {wr : va_W} {A : Nat → Prop}
variable {ρ : Type} {w : ρ → va_W} {r : ρ} {y : MethodName} {bytes : ByteArray} {maxL nL mc ms n index : Nat} {ret : Option FieldType} {wy Ts : List Cond} {rm : Room} {own : String} {As st0 : List Value}
theorem gs_callSv {post : ρ → Prop} (S : CallFix p m c cc nL s args Ts own) (hM : gm_v l y wy rm G w r As post mc ms) (cw : CallB R s args own index y bytes maxL ret wy rm mc ms n ∧ (Cond.static y).before args s = true)
    (hz : gs_Z G (w r ++ wr) A s H locs) (hn : As.length = n) (hsize : ls.size = nL) (hst : st0 = As.reverse ++ rest) (hW : (rest.map fun v => v.category).sum ≤ 8) (hdg : decode cc pc = .ok (.invokestatic index, 3)) (hf : cells + mc ≤ R.cells ∧ slots + ms ≤ R.slots)
    (kk : ∀ (u : ρ) (H1 : Heap) (locs1 : List Loc), post u → gs_Z G (w u ++ wr) A s H1 locs1 → W p l e R s m args below meth c H1 locs1 (cells + mc) (slots + ms) Q (F0 m (pc + 3) ls rest)) : W p l e R s m args below meth c H locs cells slots Q (F0 m pc ls st0) := by
  refine va_callv (va_runS (As := As) (rest := rest) S (hM H.size) cw ⟨gm_blind, gs_pre hz⟩ rfl hn hsize hst (lv_room hW) hdg hf) hz.2.2.2.1 (fun q _ h => gs_F1 hz q h) (gs_F1 hz) (fun u t H1 locs1 ht hvm hw hB hz1 hk1 hS => ?_)
  obtain ⟨hP1, hK1, hD1⟩ := hB
  rw [ht] at hP1
  exact kk u H1 locs1 hw (gs_back hz hk1 hP1 hD1 hS)
theorem gs_callSi {post : Int32 → ρ → Prop} (S : CallFix p m c cc nL s args Ts own) (hM : gm_i l y wy rm G w r As post mc ms) (cw : CallB R s args own index y bytes maxL ret wy rm mc ms n ∧ (Cond.static y).before args s = true)
    (hz : gs_Z G (w r ++ wr) A s H locs) (hn : As.length = n) (hsize : ls.size = nL) (hst : st0 = As.reverse ++ rest) (hW : (rest.map fun v => v.category).sum ≤ 8) (hdg : decode cc pc = .ok (.invokestatic index, 3)) (hf : cells + mc ≤ R.cells ∧ slots + ms ≤ R.slots)
    (kk : ∀ (res : Int32) (u : ρ) (H1 : Heap) (locs1 : List Loc), post res u → gs_Z G (w u ++ wr) A s H1 locs1 → W p l e R s m args below meth c H1 locs1 (cells + mc) (slots + ms) Q (F0 m (pc + 3) ls (.int res :: rest))) : W p l e R s m args below meth c H locs cells slots Q (F0 m pc ls st0) := by
  refine va_calli (va_runS (As := As) (rest := rest) S (hM H.size) cw ⟨gm_blind, gs_pre hz⟩ rfl hn hsize hst (lv_room hW) hdg hf) hz.2.2.2.1 (fun q _ h => gs_F1 hz q h) (gs_F1 hz) (fun res u t H1 locs1 ht hvm hw hB hz1 hk1 hS => ?_)
  obtain ⟨hP1, hK1, hD1⟩ := hB
  rw [ht] at hP1
  exact kk res u H1 locs1 hw (gs_back hz hk1 hP1 hD1 hS)
end GST
theorem jn_le {a b : Nat} (ha : a < 2 ^ 31) (hb : b < 2 ^ 31) (h : a ≤ b) : nI a ≤ nI b := (nI_leI ha hb).mpr h
set_option maxHeartbeats 4000000 in
set_option maxRecDepth 100000 in
/-- Arrays.rangeCheck, in range: nothing -/
theorem k_rangeCheck (l : Launch) (G : gs_G) (ws : va_W) (n x y : Nat) (h1 : x ≤ y) (h2 : y ≤ n) (hn : n < 2 ^ 31) : gm_v l yJ7_rangeCheck_23922 wsJ7_rangeCheck_23922 (gm_rm 1 0 0) G (fun w : va_W => w) ws [.int (nI n), .int (nI x), .int (nI y)] (fun u => u = ws) 0 0 := by
  refine gm_v.of (cc := cJ7_rangeCheck_23922) (nL := 3) (ret := none) (by decide +kernel) rfl (Nat.le_of_ble_eq_true rfl) ?_
  intro p e s m args below meth c ls C0 hz hl
  have hl : lv_has ls 3 [(0, .int (nI n)), (1, .int (nI x)), (2, .int (nI y))] := hl
  refine lv_iload_n C0.1.1 C0.1.2.1 dJ7_rangeCheck_23922_0 rfl (lv_at hl 1 rfl) ?_
  refine lv_iload_n C0.1.1 C0.1.2.1 dJ7_rangeCheck_23922_1 rfl (lv_at hl 2 rfl) ?_
  refine lv_icmp_le (tgt := 46) C0.1.1 C0.1.2.1 dJ7_rangeCheck_23922_2 (by decide) (fun _ => ?_) (fun c1 => absurd (jn_le (by omega) (by omega) h1) c1)
  refine lv_iload_n C0.1.1 C0.1.2.1 dJ7_rangeCheck_23922_46 rfl (lv_at hl 1 rfl) ?_
  refine lv_if_ge (tgt := 59) C0.1.1 C0.1.2.1 dJ7_rangeCheck_23922_47 (by decide) (fun _ => ?_) (fun c1 => absurd (nI_pos' (by omega)) c1)
  refine lv_iload_n C0.1.1 C0.1.2.1 dJ7_rangeCheck_23922_59 rfl (lv_at hl 2 rfl) ?_
  refine lv_iload_n C0.1.1 C0.1.2.1 dJ7_rangeCheck_23922_60 rfl (lv_at hl 0 rfl) ?_
  refine lv_icmp_le (tgt := 73) C0.1.1 C0.1.2.1 dJ7_rangeCheck_23922_61 (by decide) (fun _ => ?_) (fun c1 => absurd (jn_le (by omega) (by omega) h2) c1)
  exact gs_retv ws C0 hz rfl (Nat.le_of_ble_eq_true rfl) (Nat.le_of_ble_eq_true rfl) dJ7_rangeCheck_23922_73
theorem fl_st {f : Nat → Int32} {x k : Nat} {v : Int32} (h : x ≤ k) : upd (fun j => if x ≤ j ∧ j < k then v else f j) k v = (fun j => if x ≤ j ∧ j < k + 1 then v else f j) := by
  funext j
  unfold upd
  by_cases e : j = k
  · subst e
    rw [if_pos rfl, if_pos ⟨h, Nat.lt_succ_self _⟩]
  · rw [if_neg e]
    dsimp only
    by_cases q : x ≤ j ∧ j < k
    · rw [if_pos q, if_pos ⟨q.1, Nat.lt_succ_of_lt q.2⟩]
    · rw [if_neg q, if_neg (fun z => q ⟨z.1, by omega⟩)]
theorem fl_0 {f : Nat → Int32} {x : Nat} {v : Int32} : f = (fun j => if x ≤ j ∧ j < x then v else f j) := by
  funext j
  rw [if_neg (by omega)]
theorem fl_set {ws : va_W} {i a : Nat} {e : va_E} (h : ws[i]? = some (a, e)) : ws = ws.set i (a, e) := by
  apply List.ext_getElem?
  intro j
  by_cases q : i = j
  · subst q
    rw [List.getElem?_set_self (List.getElem?_eq_some_iff.mp h).1, h]
  · rw [List.getElem?_set_ne q]
set_option maxHeartbeats 4000000 in
set_option maxRecDepth 100000 in
/-- Arrays.fill(a, from, to, v), in range -/
theorem k_fillr (l : Launch) (G : gs_G) (ws : va_W) (i0 a0 n : Nat) (f : Nat → Int32) (hw : ws[i0]? = some (a0, .inl (G.2.1, n, .inl f))) (x y : Nat) (v : Int32) (h1 : x ≤ y) (h2 : y ≤ n) (hn : n < 2 ^ 31) : gm_v l yJ7_fill_fda19 wsJ7_fill_fda19 (gm_rm 2 0 0) G (fun w : va_W => w) ws [.ref a0, .int (nI x), .int (nI y), .int v] (fun u => u = ws.set i0 (a0, .inl (G.2.1, n, .inl (fun j => if x ≤ j ∧ j < y then v else f j)))) 0 0 := by
  refine gm_v.of (cc := cJ7_fill_fda19) (nL := 5) (ret := none) (by decide +kernel) rfl (Nat.le_of_ble_eq_true rfl) ?_
  intro p e s m args below meth c ls C0 hz hl
  have hl : lv_has ls 5 [(0, .ref a0), (1, .int (nI x)), (2, .int (nI y)), (3, .int v)] := hl
  refine lv_aload_n C0.1.1 C0.1.2.1 dJ7_fill_fda19_0 rfl (lv_at hl 0 rfl) ?_
  refine va_alen (v := nI n) C0.1.1 C0.1.2.1 hz.1 hz.2.1 i0 0 hw rfl rfl dJ7_fill_fda19_1 ?_
  refine lv_iload_n C0.1.1 C0.1.2.1 dJ7_fill_fda19_2 rfl (lv_at hl 1 rfl) ?_
  refine lv_iload_n C0.1.1 C0.1.2.1 dJ7_fill_fda19_3 rfl (lv_at hl 2 rfl) ?_
  refine gs_callSv (w := fun w : va_W => w) (wr := []) C0.1 (k_rangeCheck l G ws n x y h1 h2 hn) (va_cwS 3 C0.1.2.2.2.2 gJ7_fill_fda19_J7_rangeCheck_23922 rfl rfl rfl (by decide +kernel) ⟨Nat.le_of_ble_eq_true rfl, Nat.le_of_ble_eq_true rfl⟩) (gs_nil hz) rfl hl.1 rfl (Nat.le_of_ble_eq_true rfl) dJ7_fill_fda19_4 ⟨Nat.le_of_ble_eq_true rfl, Nat.le_of_ble_eq_true rfl⟩ (fun u H locs hp hz => ?_)
  replace hz := gs_unnil hz
  rw [hp] at hz
  refine lv_iload_n C0.1.1 C0.1.2.1 dJ7_fill_fda19_7 rfl (lv_at hl 1 rfl) ?_
  refine lv_istore (lv' := [(4, .int (nI x)), (0, .ref a0), (1, .int (nI x)), (2, .int (nI y)), (3, .int v)]) C0.1.1 C0.1.2.1 dJ7_fill_fda19_8 hl (by decide) rfl (fun ls hl => ?_)
  have hz2 : gs_Z G (ws.set i0 (a0, .inl (G.2.1, n, .inl (fun j => if x ≤ j ∧ j < x then v else f j)))) (va_A ws s.heap.size) s H locs := by
    rw [← fl_0, ← fl_set hw]; exact hz
  have hil : i0 < ws.length := (List.getElem?_eq_some_iff.mp hw).1
  refine (?loop : ∀ (d k : Nat) (ls : Array Slot) (H : Heap) (locs : List Loc), gs_Z G (ws.set i0 (a0, .inl (G.2.1, n, .inl (fun j => if x ≤ j ∧ j < k then v else f j)))) (va_A ws s.heap.size) s H locs → x ≤ k → k + d = y → lv_has ls 5 [(4, .int (nI k)), (0, .ref a0), (1, .int (nI x)), (2, .int (nI y)), (3, .int v)] → W p l e _ s m args below meth c H locs 0 0 _ (F0 m 10 ls [])) (y - x) x ls _ _ hz2 (Nat.le_refl _) (by omega) hl
  intro d
  induction d using Nat.strongRecOn with
  | _ d ih =>
    intro k ls H locs hz hk hd hl
    refine lv_iload C0.1.1 C0.1.2.1 dJ7_fill_fda19_10 (lv_at hl 0 rfl) ?_
    refine lv_iload_n C0.1.1 C0.1.2.1 dJ7_fill_fda19_12 rfl (lv_at hl 3 rfl) ?_
    refine lv_icmp_ge (tgt := 27) C0.1.1 C0.1.2.1 dJ7_fill_fda19_13 (by decide) (fun c1 => ?_) (fun c1 => ?_)
    · rw [nI_leI (by omega) (by omega)] at c1
      obtain rfl : k = y := by omega
      exact gs_retv (w := fun w : va_W => w) _ C0 hz rfl (Nat.le_of_ble_eq_true rfl) (Nat.le_of_ble_eq_true rfl) dJ7_fill_fda19_27
    · rw [nI_leI (by omega) (by omega)] at c1
      refine lv_aload_n C0.1.1 C0.1.2.1 dJ7_fill_fda19_16 rfl (lv_at hl 1 rfl) ?_
      refine lv_iload C0.1.1 C0.1.2.1 dJ7_fill_fda19_17 (lv_at hl 0 rfl) ?_
      refine lv_iload_n C0.1.1 C0.1.2.1 dJ7_fill_fda19_19 rfl (lv_at hl 4 rfl) ?_
      refine gs_st C0.1.1 C0.1.2.1 hz i0 (List.getElem?_set_self hil) rfl k (by omega) hn rfl dJ7_fill_fda19_20 (fun H locs hz => ?_)
      rw [List.set_set, fl_st hk] at hz
      refine lv_iinc (v := nI (k + 1)) (lv' := [(4, .int (nI (k + 1))), (0, .ref a0), (1, .int (nI x)), (2, .int (nI y)), (3, .int v)]) C0.1.1 C0.1.2.1 dJ7_fill_fda19_21 hl (k := 0) rfl (nI_1 k) (by decide) rfl (fun ls hl => ?_)
      refine lv_goto (tgt := 10) C0.1.1 C0.1.2.1 dJ7_fill_fda19_24 (by decide) ?_
      exact ih (d - 1) (by omega) (k + 1) ls _ _ hz (by omega) (by omega) hl
end
section
/-! the rows of HandleHeap: its fields, its arrays -/
abbrev xr : Type := (Nat → Int32) × (Nat → Int32) × (Nat → Int32) × (Nat → Int32) × (Nat → Int32) × (Nat → Int32) × (Nat → Int32) × Int32 × Int32 × Int32
def x_hp (r : xr) : Nat → Int32 := r.1
def x_bg (r : xr) : Nat → Int32 := r.2.1
def x_ln (r : xr) : Nat → Int32 := r.2.2.1
def x_fx (r : xr) : Nat → Int32 := r.2.2.2.1
def x_lk (r : xr) : Nat → Int32 := r.2.2.2.2.1
def x_ls (r : xr) : Nat → Int32 := r.2.2.2.2.2.1
def x_rw (r : xr) : Nat → Int32 := r.2.2.2.2.2.2.1
def x_nb (r : xr) : Int32 := r.2.2.2.2.2.2.2.1
def x_mv (r : xr) : Int32 := r.2.2.2.2.2.2.2.2.1
def x_lo (r : xr) : Int32 := r.2.2.2.2.2.2.2.2.2
def xs_hp (r : xr) (v : Nat → Int32) : xr := (v, x_bg r, x_ln r, x_fx r, x_lk r, x_ls r, x_rw r, x_nb r, x_mv r, x_lo r)
def xs_bg (r : xr) (v : Nat → Int32) : xr := (x_hp r, v, x_ln r, x_fx r, x_lk r, x_ls r, x_rw r, x_nb r, x_mv r, x_lo r)
def xs_ln (r : xr) (v : Nat → Int32) : xr := (x_hp r, x_bg r, v, x_fx r, x_lk r, x_ls r, x_rw r, x_nb r, x_mv r, x_lo r)
def xs_fx (r : xr) (v : Nat → Int32) : xr := (x_hp r, x_bg r, x_ln r, v, x_lk r, x_ls r, x_rw r, x_nb r, x_mv r, x_lo r)
def xs_lk (r : xr) (v : Nat → Int32) : xr := (x_hp r, x_bg r, x_ln r, x_fx r, v, x_ls r, x_rw r, x_nb r, x_mv r, x_lo r)
def xs_ls (r : xr) (v : Nat → Int32) : xr := (x_hp r, x_bg r, x_ln r, x_fx r, x_lk r, v, x_rw r, x_nb r, x_mv r, x_lo r)
def xs_rw (r : xr) (v : Nat → Int32) : xr := (x_hp r, x_bg r, x_ln r, x_fx r, x_lk r, x_ls r, v, x_nb r, x_mv r, x_lo r)
def xs_nb (r : xr) (v : Int32) : xr := (x_hp r, x_bg r, x_ln r, x_fx r, x_lk r, x_ls r, x_rw r, v, x_mv r, x_lo r)
def xs_mv (r : xr) (v : Int32) : xr := (x_hp r, x_bg r, x_ln r, x_fx r, x_lk r, x_ls r, x_rw r, x_nb r, v, x_lo r)
def xs_lo (r : xr) (v : Int32) : xr := (x_hp r, x_bg r, x_ln r, x_fx r, x_lk r, x_ls r, x_rw r, x_nb r, x_mv r, v)
def xw (G : gs_G) (q : Nat → Nat) (r : xr) : va_W := [(q 0, .inr (0, [.ref (q 1), .ref (q 2), .ref (q 3), .ref (q 4), .ref (q 5), .ref (q 6), .ref (q 7), .int (x_nb r), .int (x_mv r), .int (x_lo r)])), (q 1, .inl (G.2.1, 1024, .inl (x_hp r))), (q 2, .inl (G.2.1, 48, .inl (x_bg r))), (q 3, .inl (G.2.1, 48, .inl (x_ln r))), (q 4, .inl (G.2.2.1, 48, .inl (x_fx r))), (q 5, .inl (G.2.2.1, 48, .inl (x_lk r))), (q 6, .inl (G.2.2.1, 48, .inl (x_ls r))), (q 7, .inl (G.2.1, 48, .inl (x_rw r)))]
section
variable {p : Program} {l : Launch} {e : Env} {R : Room} {s : State} {m : MethodId} {args : Array Value} {below : List Frame} {meth : Method} {c : Code} {H : Heap} {locs : List Loc} {cells slots : Nat} {Q : State → Prop} {cc : ByteArray} {pc : Nat} {ls : Array Slot} {rest : List Value} {G : gs_G} {A : Nat → Prop} {nL : Nat} {ret : Option FieldType} {wy : List Cond} {q : Nat → Nat} {r : xr}
theorem xg_hp (C0 : gm_C p s m args meth c cc nL ret wy RX0) (hin : ∀ w ∈ wsX00, w ∈ wy) (hz : gs_Z G (xw G q r) A s H locs) (hl : Cond.fieldLink RX0 9 "HandleHeap" "heap" "[I" ∈ wy) (hdg : decode cc pc = .ok (.getfield 9, 3)) (kk : W p l e R s m args below meth c H locs cells slots Q (F0 m (pc + 3) ls (.ref (q 1) :: rest))) : W p l e R s m args below meth c H locs cells slots Q (F0 m pc ls (.ref (q 0) :: rest)) := gs_get C0.1.1 C0.1.2.1 C0.1.2.2.2.2 hin C0.1.2.2.2.1 hz 0 rfl rfl 0 (by decide) rfl (C0.1.2.2.2.2 _ hl) rfl hdg kk
theorem xl_hp (C0 : gm_C p s m args meth c cc nL ret wy RX0) (hz : gs_Z G (xw G q r) A s H locs) {i : Int32} (k : Nat) (hk : k < 1024) (hi : i = nI k) (hdg : decode cc pc = .ok (.iaload, 1)) (kk : W p l e R s m args below meth c H locs cells slots Q (F0 m (pc + 1) ls (.int (x_hp r k) :: rest))) : W p l e R s m args below meth c H locs cells slots Q (F0 m pc ls (.int i :: .ref (q 1) :: rest)) := gs_ld C0.1.1 C0.1.2.1 hz 1 rfl rfl k hk (by decide) hi hdg kk
theorem xt_hp (C0 : gm_C p s m args meth c cc nL ret wy RX0) (hz : gs_Z G (xw G q r) A s H locs) {i v : Int32} (k : Nat) (hk : k < 1024) (hi : i = nI k) (hdg : decode cc pc = .ok (.iastore, 1)) (kk : ∀ (H1 : Heap) (locs1 : List Loc), gs_Z G (xw G q (xs_hp r (upd (x_hp r) k v))) A s H1 locs1 → W p l e R s m args below meth c H1 locs1 cells slots Q (F0 m (pc + 1) ls rest)) : W p l e R s m args below meth c H locs cells slots Q (F0 m pc ls (.int v :: .int i :: .ref (q 1) :: rest)) := gs_st C0.1.1 C0.1.2.1 hz 1 rfl rfl k hk (by decide) hi hdg (fun H1 locs1 h => kk H1 locs1 h)
theorem xg_bg (C0 : gm_C p s m args meth c cc nL ret wy RX0) (hin : ∀ w ∈ wsX00, w ∈ wy) (hz : gs_Z G (xw G q r) A s H locs) (hl : Cond.fieldLink RX0 13 "HandleHeap" "begin" "[I" ∈ wy) (hdg : decode cc pc = .ok (.getfield 13, 3)) (kk : W p l e R s m args below meth c H locs cells slots Q (F0 m (pc + 3) ls (.ref (q 2) :: rest))) : W p l e R s m args below meth c H locs cells slots Q (F0 m pc ls (.ref (q 0) :: rest)) := gs_get C0.1.1 C0.1.2.1 C0.1.2.2.2.2 hin C0.1.2.2.2.1 hz 0 rfl rfl 1 (by decide) rfl (C0.1.2.2.2.2 _ hl) rfl hdg kk
theorem xl_bg (C0 : gm_C p s m args meth c cc nL ret wy RX0) (hz : gs_Z G (xw G q r) A s H locs) {i : Int32} (k : Nat) (hk : k < 48) (hi : i = nI k) (hdg : decode cc pc = .ok (.iaload, 1)) (kk : W p l e R s m args below meth c H locs cells slots Q (F0 m (pc + 1) ls (.int (x_bg r k) :: rest))) : W p l e R s m args below meth c H locs cells slots Q (F0 m pc ls (.int i :: .ref (q 2) :: rest)) := gs_ld C0.1.1 C0.1.2.1 hz 2 rfl rfl k hk (by decide) hi hdg kk
theorem xt_bg (C0 : gm_C p s m args meth c cc nL ret wy RX0) (hz : gs_Z G (xw G q r) A s H locs) {i v : Int32} (k : Nat) (hk : k < 48) (hi : i = nI k) (hdg : decode cc pc = .ok (.iastore, 1)) (kk : ∀ (H1 : Heap) (locs1 : List Loc), gs_Z G (xw G q (xs_bg r (upd (x_bg r) k v))) A s H1 locs1 → W p l e R s m args below meth c H1 locs1 cells slots Q (F0 m (pc + 1) ls rest)) : W p l e R s m args below meth c H locs cells slots Q (F0 m pc ls (.int v :: .int i :: .ref (q 2) :: rest)) := gs_st C0.1.1 C0.1.2.1 hz 2 rfl rfl k hk (by decide) hi hdg (fun H1 locs1 h => kk H1 locs1 h)
theorem xg_ln (C0 : gm_C p s m args meth c cc nL ret wy RX0) (hin : ∀ w ∈ wsX00, w ∈ wy) (hz : gs_Z G (xw G q r) A s H locs) (hl : Cond.fieldLink RX0 22 "HandleHeap" "length" "[I" ∈ wy) (hdg : decode cc pc = .ok (.getfield 22, 3)) (kk : W p l e R s m args below meth c H locs cells slots Q (F0 m (pc + 3) ls (.ref (q 3) :: rest))) : W p l e R s m args below meth c H locs cells slots Q (F0 m pc ls (.ref (q 0) :: rest)) := gs_get C0.1.1 C0.1.2.1 C0.1.2.2.2.2 hin C0.1.2.2.2.1 hz 0 rfl rfl 2 (by decide) rfl (C0.1.2.2.2.2 _ hl) rfl hdg kk
theorem xl_ln (C0 : gm_C p s m args meth c cc nL ret wy RX0) (hz : gs_Z G (xw G q r) A s H locs) {i : Int32} (k : Nat) (hk : k < 48) (hi : i = nI k) (hdg : decode cc pc = .ok (.iaload, 1)) (kk : W p l e R s m args below meth c H locs cells slots Q (F0 m (pc + 1) ls (.int (x_ln r k) :: rest))) : W p l e R s m args below meth c H locs cells slots Q (F0 m pc ls (.int i :: .ref (q 3) :: rest)) := gs_ld C0.1.1 C0.1.2.1 hz 3 rfl rfl k hk (by decide) hi hdg kk
theorem xt_ln (C0 : gm_C p s m args meth c cc nL ret wy RX0) (hz : gs_Z G (xw G q r) A s H locs) {i v : Int32} (k : Nat) (hk : k < 48) (hi : i = nI k) (hdg : decode cc pc = .ok (.iastore, 1)) (kk : ∀ (H1 : Heap) (locs1 : List Loc), gs_Z G (xw G q (xs_ln r (upd (x_ln r) k v))) A s H1 locs1 → W p l e R s m args below meth c H1 locs1 cells slots Q (F0 m (pc + 1) ls rest)) : W p l e R s m args below meth c H locs cells slots Q (F0 m pc ls (.int v :: .int i :: .ref (q 3) :: rest)) := gs_st C0.1.1 C0.1.2.1 hz 3 rfl rfl k hk (by decide) hi hdg (fun H1 locs1 h => kk H1 locs1 h)
theorem xg_fx (C0 : gm_C p s m args meth c cc nL ret wy RX0) (hin : ∀ w ∈ wsX00, w ∈ wy) (hz : gs_Z G (xw G q r) A s H locs) (hl : Cond.fieldLink RX0 25 "HandleHeap" "isFixed" "[Z" ∈ wy) (hdg : decode cc pc = .ok (.getfield 25, 3)) (kk : W p l e R s m args below meth c H locs cells slots Q (F0 m (pc + 3) ls (.ref (q 4) :: rest))) : W p l e R s m args below meth c H locs cells slots Q (F0 m pc ls (.ref (q 0) :: rest)) := gs_get C0.1.1 C0.1.2.1 C0.1.2.2.2.2 hin C0.1.2.2.2.1 hz 0 rfl rfl 3 (by decide) rfl (C0.1.2.2.2.2 _ hl) rfl hdg kk
theorem xl_fx (C0 : gm_C p s m args meth c cc nL ret wy RX0) (hz : gs_Z G (xw G q r) A s H locs) {i : Int32} (k : Nat) (hk : k < 48) (hi : i = nI k) (hdg : decode cc pc = .ok (.baload, 1)) (kk : W p l e R s m args below meth c H locs cells slots Q (F0 m (pc + 1) ls (.int (x_fx r k) :: rest))) : W p l e R s m args below meth c H locs cells slots Q (F0 m pc ls (.int i :: .ref (q 4) :: rest)) := gs_ldz C0.1.1 C0.1.2.1 hz 4 rfl rfl k hk (by decide) hi hdg kk
theorem xt_fx (C0 : gm_C p s m args meth c cc nL ret wy RX0) (hz : gs_Z G (xw G q r) A s H locs) {i v : Int32} (k : Nat) (hk : k < 48) (hi : i = nI k) (hv : vp_nar .boolean v = v) (hdg : decode cc pc = .ok (.bastore, 1)) (kk : ∀ (H1 : Heap) (locs1 : List Loc), gs_Z G (xw G q (xs_fx r (upd (x_fx r) k v))) A s H1 locs1 → W p l e R s m args below meth c H1 locs1 cells slots Q (F0 m (pc + 1) ls rest)) : W p l e R s m args below meth c H locs cells slots Q (F0 m pc ls (.int v :: .int i :: .ref (q 4) :: rest)) := gs_stz C0.1.1 C0.1.2.1 hz 4 rfl rfl k hk (by decide) hi hv hdg (fun H1 locs1 h => kk H1 locs1 h)
theorem xg_lk (C0 : gm_C p s m args meth c cc nL ret wy RX0) (hin : ∀ w ∈ wsX00, w ∈ wy) (hz : gs_Z G (xw G q r) A s H locs) (hl : Cond.fieldLink RX0 29 "HandleHeap" "isLocked" "[Z" ∈ wy) (hdg : decode cc pc = .ok (.getfield 29, 3)) (kk : W p l e R s m args below meth c H locs cells slots Q (F0 m (pc + 3) ls (.ref (q 5) :: rest))) : W p l e R s m args below meth c H locs cells slots Q (F0 m pc ls (.ref (q 0) :: rest)) := gs_get C0.1.1 C0.1.2.1 C0.1.2.2.2.2 hin C0.1.2.2.2.1 hz 0 rfl rfl 4 (by decide) rfl (C0.1.2.2.2.2 _ hl) rfl hdg kk
theorem xl_lk (C0 : gm_C p s m args meth c cc nL ret wy RX0) (hz : gs_Z G (xw G q r) A s H locs) {i : Int32} (k : Nat) (hk : k < 48) (hi : i = nI k) (hdg : decode cc pc = .ok (.baload, 1)) (kk : W p l e R s m args below meth c H locs cells slots Q (F0 m (pc + 1) ls (.int (x_lk r k) :: rest))) : W p l e R s m args below meth c H locs cells slots Q (F0 m pc ls (.int i :: .ref (q 5) :: rest)) := gs_ldz C0.1.1 C0.1.2.1 hz 5 rfl rfl k hk (by decide) hi hdg kk
theorem xt_lk (C0 : gm_C p s m args meth c cc nL ret wy RX0) (hz : gs_Z G (xw G q r) A s H locs) {i v : Int32} (k : Nat) (hk : k < 48) (hi : i = nI k) (hv : vp_nar .boolean v = v) (hdg : decode cc pc = .ok (.bastore, 1)) (kk : ∀ (H1 : Heap) (locs1 : List Loc), gs_Z G (xw G q (xs_lk r (upd (x_lk r) k v))) A s H1 locs1 → W p l e R s m args below meth c H1 locs1 cells slots Q (F0 m (pc + 1) ls rest)) : W p l e R s m args below meth c H locs cells slots Q (F0 m pc ls (.int v :: .int i :: .ref (q 5) :: rest)) := gs_stz C0.1.1 C0.1.2.1 hz 5 rfl rfl k hk (by decide) hi hv hdg (fun H1 locs1 h => kk H1 locs1 h)
theorem xg_ls (C0 : gm_C p s m args meth c cc nL ret wy RX0) (hin : ∀ w ∈ wsX00, w ∈ wy) (hz : gs_Z G (xw G q r) A s H locs) (hl : Cond.fieldLink RX0 32 "HandleHeap" "isLosable" "[Z" ∈ wy) (hdg : decode cc pc = .ok (.getfield 32, 3)) (kk : W p l e R s m args below meth c H locs cells slots Q (F0 m (pc + 3) ls (.ref (q 6) :: rest))) : W p l e R s m args below meth c H locs cells slots Q (F0 m pc ls (.ref (q 0) :: rest)) := gs_get C0.1.1 C0.1.2.1 C0.1.2.2.2.2 hin C0.1.2.2.2.1 hz 0 rfl rfl 5 (by decide) rfl (C0.1.2.2.2.2 _ hl) rfl hdg kk
theorem xl_ls (C0 : gm_C p s m args meth c cc nL ret wy RX0) (hz : gs_Z G (xw G q r) A s H locs) {i : Int32} (k : Nat) (hk : k < 48) (hi : i = nI k) (hdg : decode cc pc = .ok (.baload, 1)) (kk : W p l e R s m args below meth c H locs cells slots Q (F0 m (pc + 1) ls (.int (x_ls r k) :: rest))) : W p l e R s m args below meth c H locs cells slots Q (F0 m pc ls (.int i :: .ref (q 6) :: rest)) := gs_ldz C0.1.1 C0.1.2.1 hz 6 rfl rfl k hk (by decide) hi hdg kk
theorem xt_ls (C0 : gm_C p s m args meth c cc nL ret wy RX0) (hz : gs_Z G (xw G q r) A s H locs) {i v : Int32} (k : Nat) (hk : k < 48) (hi : i = nI k) (hv : vp_nar .boolean v = v) (hdg : decode cc pc = .ok (.bastore, 1)) (kk : ∀ (H1 : Heap) (locs1 : List Loc), gs_Z G (xw G q (xs_ls r (upd (x_ls r) k v))) A s H1 locs1 → W p l e R s m args below meth c H1 locs1 cells slots Q (F0 m (pc + 1) ls rest)) : W p l e R s m args below meth c H locs cells slots Q (F0 m pc ls (.int v :: .int i :: .ref (q 6) :: rest)) := gs_stz C0.1.1 C0.1.2.1 hz 6 rfl rfl k hk (by decide) hi hv hdg (fun H1 locs1 h => kk H1 locs1 h)
theorem xg_rw (C0 : gm_C p s m args meth c cc nL ret wy RX0) (hin : ∀ w ∈ wsX00, w ∈ wy) (hz : gs_Z G (xw G q r) A s H locs) (hl : Cond.fieldLink RX0 35 "HandleHeap" "row" "[I" ∈ wy) (hdg : decode cc pc = .ok (.getfield 35, 3)) (kk : W p l e R s m args below meth c H locs cells slots Q (F0 m (pc + 3) ls (.ref (q 7) :: rest))) : W p l e R s m args below meth c H locs cells slots Q (F0 m pc ls (.ref (q 0) :: rest)) := gs_get C0.1.1 C0.1.2.1 C0.1.2.2.2.2 hin C0.1.2.2.2.1 hz 0 rfl rfl 6 (by decide) rfl (C0.1.2.2.2.2 _ hl) rfl hdg kk
theorem xl_rw (C0 : gm_C p s m args meth c cc nL ret wy RX0) (hz : gs_Z G (xw G q r) A s H locs) {i : Int32} (k : Nat) (hk : k < 48) (hi : i = nI k) (hdg : decode cc pc = .ok (.iaload, 1)) (kk : W p l e R s m args below meth c H locs cells slots Q (F0 m (pc + 1) ls (.int (x_rw r k) :: rest))) : W p l e R s m args below meth c H locs cells slots Q (F0 m pc ls (.int i :: .ref (q 7) :: rest)) := gs_ld C0.1.1 C0.1.2.1 hz 7 rfl rfl k hk (by decide) hi hdg kk
theorem xt_rw (C0 : gm_C p s m args meth c cc nL ret wy RX0) (hz : gs_Z G (xw G q r) A s H locs) {i v : Int32} (k : Nat) (hk : k < 48) (hi : i = nI k) (hdg : decode cc pc = .ok (.iastore, 1)) (kk : ∀ (H1 : Heap) (locs1 : List Loc), gs_Z G (xw G q (xs_rw r (upd (x_rw r) k v))) A s H1 locs1 → W p l e R s m args below meth c H1 locs1 cells slots Q (F0 m (pc + 1) ls rest)) : W p l e R s m args below meth c H locs cells slots Q (F0 m pc ls (.int v :: .int i :: .ref (q 7) :: rest)) := gs_st C0.1.1 C0.1.2.1 hz 7 rfl rfl k hk (by decide) hi hdg (fun H1 locs1 h => kk H1 locs1 h)
theorem xg_nb (C0 : gm_C p s m args meth c cc nL ret wy RX0) (hin : ∀ w ∈ wsX00, w ∈ wy) (hz : gs_Z G (xw G q r) A s H locs) (hl : Cond.fieldLink RX0 38 "HandleHeap" "blocks" "I" ∈ wy) (hdg : decode cc pc = .ok (.getfield 38, 3)) (kk : W p l e R s m args below meth c H locs cells slots Q (F0 m (pc + 3) ls (.int (x_nb r) :: rest))) : W p l e R s m args below meth c H locs cells slots Q (F0 m pc ls (.ref (q 0) :: rest)) := gs_get C0.1.1 C0.1.2.1 C0.1.2.2.2.2 hin C0.1.2.2.2.1 hz 0 rfl rfl 7 (by decide) rfl (C0.1.2.2.2.2 _ hl) rfl hdg kk
theorem xp_nb (C0 : gm_C p s m args meth c cc nL ret wy RX0) (hin : ∀ w ∈ wsX00, w ∈ wy) (hz : gs_Z G (xw G q r) A s H locs) {v : Int32} (hl : Cond.fieldLink RX0 38 "HandleHeap" "blocks" "I" ∈ wy) (hdg : decode cc pc = .ok (.putfield 38, 3)) (kk : ∀ (H1 : Heap) (locs1 : List Loc), gs_Z G (xw G q (xs_nb r v)) A s H1 locs1 → W p l e R s m args below meth c H1 locs1 cells slots Q (F0 m (pc + 3) ls rest)) : W p l e R s m args below meth c H locs cells slots Q (F0 m pc ls (.int v :: .ref (q 0) :: rest)) := gs_put C0.1.1 C0.1.2.1 C0.1.2.2.2.2 hin tyX0 tyX0_ok nmX0 C0.1.2.2.2.1 hz 0 rfl rfl 7 (by decide) rfl (C0.1.2.2.2.2 _ hl) rfl (by decide +kernel) (Nat.le_of_ble_eq_true rfl) hdg (fun H1 locs1 h => kk H1 locs1 h)
theorem xg_mv (C0 : gm_C p s m args meth c cc nL ret wy RX0) (hin : ∀ w ∈ wsX00, w ∈ wy) (hz : gs_Z G (xw G q r) A s H locs) (hl : Cond.fieldLink RX0 42 "HandleHeap" "bytesMoved" "I" ∈ wy) (hdg : decode cc pc = .ok (.getfield 42, 3)) (kk : W p l e R s m args below meth c H locs cells slots Q (F0 m (pc + 3) ls (.int (x_mv r) :: rest))) : W p l e R s m args below meth c H locs cells slots Q (F0 m pc ls (.ref (q 0) :: rest)) := gs_get C0.1.1 C0.1.2.1 C0.1.2.2.2.2 hin C0.1.2.2.2.1 hz 0 rfl rfl 8 (by decide) rfl (C0.1.2.2.2.2 _ hl) rfl hdg kk
theorem xp_mv (C0 : gm_C p s m args meth c cc nL ret wy RX0) (hin : ∀ w ∈ wsX00, w ∈ wy) (hz : gs_Z G (xw G q r) A s H locs) {v : Int32} (hl : Cond.fieldLink RX0 42 "HandleHeap" "bytesMoved" "I" ∈ wy) (hdg : decode cc pc = .ok (.putfield 42, 3)) (kk : ∀ (H1 : Heap) (locs1 : List Loc), gs_Z G (xw G q (xs_mv r v)) A s H1 locs1 → W p l e R s m args below meth c H1 locs1 cells slots Q (F0 m (pc + 3) ls rest)) : W p l e R s m args below meth c H locs cells slots Q (F0 m pc ls (.int v :: .ref (q 0) :: rest)) := gs_put C0.1.1 C0.1.2.1 C0.1.2.2.2.2 hin tyX0 tyX0_ok nmX0 C0.1.2.2.2.1 hz 0 rfl rfl 8 (by decide) rfl (C0.1.2.2.2.2 _ hl) rfl (by decide +kernel) (Nat.le_of_ble_eq_true rfl) hdg (fun H1 locs1 h => kk H1 locs1 h)
theorem xg_lo (C0 : gm_C p s m args meth c cc nL ret wy RX0) (hin : ∀ w ∈ wsX00, w ∈ wy) (hz : gs_Z G (xw G q r) A s H locs) (hl : Cond.fieldLink RX0 45 "HandleHeap" "blocksLost" "I" ∈ wy) (hdg : decode cc pc = .ok (.getfield 45, 3)) (kk : W p l e R s m args below meth c H locs cells slots Q (F0 m (pc + 3) ls (.int (x_lo r) :: rest))) : W p l e R s m args below meth c H locs cells slots Q (F0 m pc ls (.ref (q 0) :: rest)) := gs_get C0.1.1 C0.1.2.1 C0.1.2.2.2.2 hin C0.1.2.2.2.1 hz 0 rfl rfl 9 (by decide) rfl (C0.1.2.2.2.2 _ hl) rfl hdg kk
theorem xp_lo (C0 : gm_C p s m args meth c cc nL ret wy RX0) (hin : ∀ w ∈ wsX00, w ∈ wy) (hz : gs_Z G (xw G q r) A s H locs) {v : Int32} (hl : Cond.fieldLink RX0 45 "HandleHeap" "blocksLost" "I" ∈ wy) (hdg : decode cc pc = .ok (.putfield 45, 3)) (kk : ∀ (H1 : Heap) (locs1 : List Loc), gs_Z G (xw G q (xs_lo r v)) A s H1 locs1 → W p l e R s m args below meth c H1 locs1 cells slots Q (F0 m (pc + 3) ls rest)) : W p l e R s m args below meth c H locs cells slots Q (F0 m pc ls (.int v :: .ref (q 0) :: rest)) := gs_put C0.1.1 C0.1.2.1 C0.1.2.2.2.2 hin tyX0 tyX0_ok nmX0 C0.1.2.2.2.1 hz 0 rfl rfl 9 (by decide) rfl (C0.1.2.2.2.2 _ hl) rfl (by decide +kernel) (Nat.le_of_ble_eq_true rfl) hdg (fun H1 locs1 h => kk H1 locs1 h)
end
/-! the rows of HandleHeapModel: its fields, its arrays -/
abbrev yr : Type := Int32 × (Nat → Int32) × (Nat → Int32) × (Nat → Int32) × (Nat → Int32) × (Nat → Int32) × (Nat → Int32) × (Nat → Int32) × Int32 × Int32
def y_th (r : yr) : Int32 := r.1
def y_us (r : yr) : Nat → Int32 := r.2.1
def y_bg (r : yr) : Nat → Int32 := r.2.2.1
def y_sz (r : yr) : Nat → Int32 := r.2.2.2.1
def y_fx (r : yr) : Nat → Int32 := r.2.2.2.2.1
def y_lk (r : yr) : Nat → Int32 := r.2.2.2.2.2.1
def y_ls (r : yr) : Nat → Int32 := r.2.2.2.2.2.2.1
def y_by (r : yr) : Nat → Int32 := r.2.2.2.2.2.2.2.1
def y_mv (r : yr) : Int32 := r.2.2.2.2.2.2.2.2.1
def y_lo (r : yr) : Int32 := r.2.2.2.2.2.2.2.2.2
def ys_th (r : yr) (v : Int32) : yr := (v, y_us r, y_bg r, y_sz r, y_fx r, y_lk r, y_ls r, y_by r, y_mv r, y_lo r)
def ys_us (r : yr) (v : Nat → Int32) : yr := (y_th r, v, y_bg r, y_sz r, y_fx r, y_lk r, y_ls r, y_by r, y_mv r, y_lo r)
def ys_bg (r : yr) (v : Nat → Int32) : yr := (y_th r, y_us r, v, y_sz r, y_fx r, y_lk r, y_ls r, y_by r, y_mv r, y_lo r)
def ys_sz (r : yr) (v : Nat → Int32) : yr := (y_th r, y_us r, y_bg r, v, y_fx r, y_lk r, y_ls r, y_by r, y_mv r, y_lo r)
def ys_fx (r : yr) (v : Nat → Int32) : yr := (y_th r, y_us r, y_bg r, y_sz r, v, y_lk r, y_ls r, y_by r, y_mv r, y_lo r)
def ys_lk (r : yr) (v : Nat → Int32) : yr := (y_th r, y_us r, y_bg r, y_sz r, y_fx r, v, y_ls r, y_by r, y_mv r, y_lo r)
def ys_ls (r : yr) (v : Nat → Int32) : yr := (y_th r, y_us r, y_bg r, y_sz r, y_fx r, y_lk r, v, y_by r, y_mv r, y_lo r)
def ys_by (r : yr) (v : Nat → Int32) : yr := (y_th r, y_us r, y_bg r, y_sz r, y_fx r, y_lk r, y_ls r, v, y_mv r, y_lo r)
def ys_mv (r : yr) (v : Int32) : yr := (y_th r, y_us r, y_bg r, y_sz r, y_fx r, y_lk r, y_ls r, y_by r, v, y_lo r)
def ys_lo (r : yr) (v : Int32) : yr := (y_th r, y_us r, y_bg r, y_sz r, y_fx r, y_lk r, y_ls r, y_by r, y_mv r, v)
def yw (G : gs_G) (q : Nat → Nat) (r : yr) : va_W := [(q 0, .inr (1, [.int (y_th r), .ref (q 1), .ref (q 2), .ref (q 3), .ref (q 4), .ref (q 5), .ref (q 6), .ref (q 7), .int (y_mv r), .int (y_lo r)])), (q 1, .inl (G.2.2.1, 48, .inl (y_us r))), (q 2, .inl (G.2.1, 48, .inl (y_bg r))), (q 3, .inl (G.2.1, 48, .inl (y_sz r))), (q 4, .inl (G.2.2.1, 48, .inl (y_fx r))), (q 5, .inl (G.2.2.1, 48, .inl (y_lk r))), (q 6, .inl (G.2.2.1, 48, .inl (y_ls r))), (q 7, .inl (G.2.1, 49152, .inl (y_by r)))]
section
variable {p : Program} {l : Launch} {e : Env} {R : Room} {s : State} {m : MethodId} {args : Array Value} {below : List Frame} {meth : Method} {c : Code} {H : Heap} {locs : List Loc} {cells slots : Nat} {Q : State → Prop} {cc : ByteArray} {pc : Nat} {ls : Array Slot} {rest : List Value} {G : gs_G} {A : Nat → Prop} {nL : Nat} {ret : Option FieldType} {wy : List Cond} {q : Nat → Nat} {r : yr}
theorem yg_th (C0 : gm_C p s m args meth c cc nL ret wy RX1) (hin : ∀ w ∈ wsX10, w ∈ wy) (hz : gs_Z G (yw G q r) A s H locs) (hl : Cond.fieldLink RX1 33 "HandleHeapModel" "thrown" "I" ∈ wy) (hdg : decode cc pc = .ok (.getfield 33, 3)) (kk : W p l e R s m args below meth c H locs cells slots Q (F0 m (pc + 3) ls (.int (y_th r) :: rest))) : W p l e R s m args below meth c H locs cells slots Q (F0 m pc ls (.ref (q 0) :: rest)) := gs_get C0.1.1 C0.1.2.1 C0.1.2.2.2.2 hin C0.1.2.2.2.1 hz 0 rfl rfl 0 (by decide) rfl (C0.1.2.2.2.2 _ hl) rfl hdg kk
theorem yp_th (C0 : gm_C p s m args meth c cc nL ret wy RX1) (hin : ∀ w ∈ wsX10, w ∈ wy) (hz : gs_Z G (yw G q r) A s H locs) {v : Int32} (hl : Cond.fieldLink RX1 33 "HandleHeapModel" "thrown" "I" ∈ wy) (hdg : decode cc pc = .ok (.putfield 33, 3)) (kk : ∀ (H1 : Heap) (locs1 : List Loc), gs_Z G (yw G q (ys_th r v)) A s H1 locs1 → W p l e R s m args below meth c H1 locs1 cells slots Q (F0 m (pc + 3) ls rest)) : W p l e R s m args below meth c H locs cells slots Q (F0 m pc ls (.int v :: .ref (q 0) :: rest)) := gs_put C0.1.1 C0.1.2.1 C0.1.2.2.2.2 hin tyX1 tyX1_ok nmX1 C0.1.2.2.2.1 hz 0 rfl rfl 0 (by decide) rfl (C0.1.2.2.2.2 _ hl) rfl (by decide +kernel) (Nat.le_of_ble_eq_true rfl) hdg (fun H1 locs1 h => kk H1 locs1 h)
theorem yg_us (C0 : gm_C p s m args meth c cc nL ret wy RX1) (hin : ∀ w ∈ wsX10, w ∈ wy) (hz : gs_Z G (yw G q r) A s H locs) (hl : Cond.fieldLink RX1 7 "HandleHeapModel" "used" "[Z" ∈ wy) (hdg : decode cc pc = .ok (.getfield 7, 3)) (kk : W p l e R s m args below meth c H locs cells slots Q (F0 m (pc + 3) ls (.ref (q 1) :: rest))) : W p l e R s m args below meth c H locs cells slots Q (F0 m pc ls (.ref (q 0) :: rest)) := gs_get C0.1.1 C0.1.2.1 C0.1.2.2.2.2 hin C0.1.2.2.2.1 hz 0 rfl rfl 1 (by decide) rfl (C0.1.2.2.2.2 _ hl) rfl hdg kk
theorem yl_us (C0 : gm_C p s m args meth c cc nL ret wy RX1) (hz : gs_Z G (yw G q r) A s H locs) {i : Int32} (k : Nat) (hk : k < 48) (hi : i = nI k) (hdg : decode cc pc = .ok (.baload, 1)) (kk : W p l e R s m args below meth c H locs cells slots Q (F0 m (pc + 1) ls (.int (y_us r k) :: rest))) : W p l e R s m args below meth c H locs cells slots Q (F0 m pc ls (.int i :: .ref (q 1) :: rest)) := gs_ldz C0.1.1 C0.1.2.1 hz 1 rfl rfl k hk (by decide) hi hdg kk
theorem yt_us (C0 : gm_C p s m args meth c cc nL ret wy RX1) (hz : gs_Z G (yw G q r) A s H locs) {i v : Int32} (k : Nat) (hk : k < 48) (hi : i = nI k) (hv : vp_nar .boolean v = v) (hdg : decode cc pc = .ok (.bastore, 1)) (kk : ∀ (H1 : Heap) (locs1 : List Loc), gs_Z G (yw G q (ys_us r (upd (y_us r) k v))) A s H1 locs1 → W p l e R s m args below meth c H1 locs1 cells slots Q (F0 m (pc + 1) ls rest)) : W p l e R s m args below meth c H locs cells slots Q (F0 m pc ls (.int v :: .int i :: .ref (q 1) :: rest)) := gs_stz C0.1.1 C0.1.2.1 hz 1 rfl rfl k hk (by decide) hi hv hdg (fun H1 locs1 h => kk H1 locs1 h)
theorem yg_bg (C0 : gm_C p s m args meth c cc nL ret wy RX1) (hin : ∀ w ∈ wsX10, w ∈ wy) (hz : gs_Z G (yw G q r) A s H locs) (hl : Cond.fieldLink RX1 13 "HandleHeapModel" "begin" "[I" ∈ wy) (hdg : decode cc pc = .ok (.getfield 13, 3)) (kk : W p l e R s m args below meth c H locs cells slots Q (F0 m (pc + 3) ls (.ref (q 2) :: rest))) : W p l e R s m args below meth c H locs cells slots Q (F0 m pc ls (.ref (q 0) :: rest)) := gs_get C0.1.1 C0.1.2.1 C0.1.2.2.2.2 hin C0.1.2.2.2.1 hz 0 rfl rfl 2 (by decide) rfl (C0.1.2.2.2.2 _ hl) rfl hdg kk
theorem yl_bg (C0 : gm_C p s m args meth c cc nL ret wy RX1) (hz : gs_Z G (yw G q r) A s H locs) {i : Int32} (k : Nat) (hk : k < 48) (hi : i = nI k) (hdg : decode cc pc = .ok (.iaload, 1)) (kk : W p l e R s m args below meth c H locs cells slots Q (F0 m (pc + 1) ls (.int (y_bg r k) :: rest))) : W p l e R s m args below meth c H locs cells slots Q (F0 m pc ls (.int i :: .ref (q 2) :: rest)) := gs_ld C0.1.1 C0.1.2.1 hz 2 rfl rfl k hk (by decide) hi hdg kk
theorem yt_bg (C0 : gm_C p s m args meth c cc nL ret wy RX1) (hz : gs_Z G (yw G q r) A s H locs) {i v : Int32} (k : Nat) (hk : k < 48) (hi : i = nI k) (hdg : decode cc pc = .ok (.iastore, 1)) (kk : ∀ (H1 : Heap) (locs1 : List Loc), gs_Z G (yw G q (ys_bg r (upd (y_bg r) k v))) A s H1 locs1 → W p l e R s m args below meth c H1 locs1 cells slots Q (F0 m (pc + 1) ls rest)) : W p l e R s m args below meth c H locs cells slots Q (F0 m pc ls (.int v :: .int i :: .ref (q 2) :: rest)) := gs_st C0.1.1 C0.1.2.1 hz 2 rfl rfl k hk (by decide) hi hdg (fun H1 locs1 h => kk H1 locs1 h)
theorem yg_sz (C0 : gm_C p s m args meth c cc nL ret wy RX1) (hin : ∀ w ∈ wsX10, w ∈ wy) (hz : gs_Z G (yw G q r) A s H locs) (hl : Cond.fieldLink RX1 17 "HandleHeapModel" "size" "[I" ∈ wy) (hdg : decode cc pc = .ok (.getfield 17, 3)) (kk : W p l e R s m args below meth c H locs cells slots Q (F0 m (pc + 3) ls (.ref (q 3) :: rest))) : W p l e R s m args below meth c H locs cells slots Q (F0 m pc ls (.ref (q 0) :: rest)) := gs_get C0.1.1 C0.1.2.1 C0.1.2.2.2.2 hin C0.1.2.2.2.1 hz 0 rfl rfl 3 (by decide) rfl (C0.1.2.2.2.2 _ hl) rfl hdg kk
theorem yl_sz (C0 : gm_C p s m args meth c cc nL ret wy RX1) (hz : gs_Z G (yw G q r) A s H locs) {i : Int32} (k : Nat) (hk : k < 48) (hi : i = nI k) (hdg : decode cc pc = .ok (.iaload, 1)) (kk : W p l e R s m args below meth c H locs cells slots Q (F0 m (pc + 1) ls (.int (y_sz r k) :: rest))) : W p l e R s m args below meth c H locs cells slots Q (F0 m pc ls (.int i :: .ref (q 3) :: rest)) := gs_ld C0.1.1 C0.1.2.1 hz 3 rfl rfl k hk (by decide) hi hdg kk
theorem yt_sz (C0 : gm_C p s m args meth c cc nL ret wy RX1) (hz : gs_Z G (yw G q r) A s H locs) {i v : Int32} (k : Nat) (hk : k < 48) (hi : i = nI k) (hdg : decode cc pc = .ok (.iastore, 1)) (kk : ∀ (H1 : Heap) (locs1 : List Loc), gs_Z G (yw G q (ys_sz r (upd (y_sz r) k v))) A s H1 locs1 → W p l e R s m args below meth c H1 locs1 cells slots Q (F0 m (pc + 1) ls rest)) : W p l e R s m args below meth c H locs cells slots Q (F0 m pc ls (.int v :: .int i :: .ref (q 3) :: rest)) := gs_st C0.1.1 C0.1.2.1 hz 3 rfl rfl k hk (by decide) hi hdg (fun H1 locs1 h => kk H1 locs1 h)
theorem yg_fx (C0 : gm_C p s m args meth c cc nL ret wy RX1) (hin : ∀ w ∈ wsX10, w ∈ wy) (hz : gs_Z G (yw G q r) A s H locs) (hl : Cond.fieldLink RX1 20 "HandleHeapModel" "fixed" "[Z" ∈ wy) (hdg : decode cc pc = .ok (.getfield 20, 3)) (kk : W p l e R s m args below meth c H locs cells slots Q (F0 m (pc + 3) ls (.ref (q 4) :: rest))) : W p l e R s m args below meth c H locs cells slots Q (F0 m pc ls (.ref (q 0) :: rest)) := gs_get C0.1.1 C0.1.2.1 C0.1.2.2.2.2 hin C0.1.2.2.2.1 hz 0 rfl rfl 4 (by decide) rfl (C0.1.2.2.2.2 _ hl) rfl hdg kk
theorem yl_fx (C0 : gm_C p s m args meth c cc nL ret wy RX1) (hz : gs_Z G (yw G q r) A s H locs) {i : Int32} (k : Nat) (hk : k < 48) (hi : i = nI k) (hdg : decode cc pc = .ok (.baload, 1)) (kk : W p l e R s m args below meth c H locs cells slots Q (F0 m (pc + 1) ls (.int (y_fx r k) :: rest))) : W p l e R s m args below meth c H locs cells slots Q (F0 m pc ls (.int i :: .ref (q 4) :: rest)) := gs_ldz C0.1.1 C0.1.2.1 hz 4 rfl rfl k hk (by decide) hi hdg kk
theorem yt_fx (C0 : gm_C p s m args meth c cc nL ret wy RX1) (hz : gs_Z G (yw G q r) A s H locs) {i v : Int32} (k : Nat) (hk : k < 48) (hi : i = nI k) (hv : vp_nar .boolean v = v) (hdg : decode cc pc = .ok (.bastore, 1)) (kk : ∀ (H1 : Heap) (locs1 : List Loc), gs_Z G (yw G q (ys_fx r (upd (y_fx r) k v))) A s H1 locs1 → W p l e R s m args below meth c H1 locs1 cells slots Q (F0 m (pc + 1) ls rest)) : W p l e R s m args below meth c H locs cells slots Q (F0 m pc ls (.int v :: .int i :: .ref (q 4) :: rest)) := gs_stz C0.1.1 C0.1.2.1 hz 4 rfl rfl k hk (by decide) hi hv hdg (fun H1 locs1 h => kk H1 locs1 h)
theorem yg_lk (C0 : gm_C p s m args meth c cc nL ret wy RX1) (hin : ∀ w ∈ wsX10, w ∈ wy) (hz : gs_Z G (yw G q r) A s H locs) (hl : Cond.fieldLink RX1 23 "HandleHeapModel" "locked" "[Z" ∈ wy) (hdg : decode cc pc = .ok (.getfield 23, 3)) (kk : W p l e R s m args below meth c H locs cells slots Q (F0 m (pc + 3) ls (.ref (q 5) :: rest))) : W p l e R s m args below meth c H locs cells slots Q (F0 m pc ls (.ref (q 0) :: rest)) := gs_get C0.1.1 C0.1.2.1 C0.1.2.2.2.2 hin C0.1.2.2.2.1 hz 0 rfl rfl 5 (by decide) rfl (C0.1.2.2.2.2 _ hl) rfl hdg kk
theorem yl_lk (C0 : gm_C p s m args meth c cc nL ret wy RX1) (hz : gs_Z G (yw G q r) A s H locs) {i : Int32} (k : Nat) (hk : k < 48) (hi : i = nI k) (hdg : decode cc pc = .ok (.baload, 1)) (kk : W p l e R s m args below meth c H locs cells slots Q (F0 m (pc + 1) ls (.int (y_lk r k) :: rest))) : W p l e R s m args below meth c H locs cells slots Q (F0 m pc ls (.int i :: .ref (q 5) :: rest)) := gs_ldz C0.1.1 C0.1.2.1 hz 5 rfl rfl k hk (by decide) hi hdg kk
theorem yt_lk (C0 : gm_C p s m args meth c cc nL ret wy RX1) (hz : gs_Z G (yw G q r) A s H locs) {i v : Int32} (k : Nat) (hk : k < 48) (hi : i = nI k) (hv : vp_nar .boolean v = v) (hdg : decode cc pc = .ok (.bastore, 1)) (kk : ∀ (H1 : Heap) (locs1 : List Loc), gs_Z G (yw G q (ys_lk r (upd (y_lk r) k v))) A s H1 locs1 → W p l e R s m args below meth c H1 locs1 cells slots Q (F0 m (pc + 1) ls rest)) : W p l e R s m args below meth c H locs cells slots Q (F0 m pc ls (.int v :: .int i :: .ref (q 5) :: rest)) := gs_stz C0.1.1 C0.1.2.1 hz 5 rfl rfl k hk (by decide) hi hv hdg (fun H1 locs1 h => kk H1 locs1 h)
theorem yg_ls (C0 : gm_C p s m args meth c cc nL ret wy RX1) (hin : ∀ w ∈ wsX10, w ∈ wy) (hz : gs_Z G (yw G q r) A s H locs) (hl : Cond.fieldLink RX1 26 "HandleHeapModel" "losable" "[Z" ∈ wy) (hdg : decode cc pc = .ok (.getfield 26, 3)) (kk : W p l e R s m args below meth c H locs cells slots Q (F0 m (pc + 3) ls (.ref (q 6) :: rest))) : W p l e R s m args below meth c H locs cells slots Q (F0 m pc ls (.ref (q 0) :: rest)) := gs_get C0.1.1 C0.1.2.1 C0.1.2.2.2.2 hin C0.1.2.2.2.1 hz 0 rfl rfl 6 (by decide) rfl (C0.1.2.2.2.2 _ hl) rfl hdg kk
theorem yl_ls (C0 : gm_C p s m args meth c cc nL ret wy RX1) (hz : gs_Z G (yw G q r) A s H locs) {i : Int32} (k : Nat) (hk : k < 48) (hi : i = nI k) (hdg : decode cc pc = .ok (.baload, 1)) (kk : W p l e R s m args below meth c H locs cells slots Q (F0 m (pc + 1) ls (.int (y_ls r k) :: rest))) : W p l e R s m args below meth c H locs cells slots Q (F0 m pc ls (.int i :: .ref (q 6) :: rest)) := gs_ldz C0.1.1 C0.1.2.1 hz 6 rfl rfl k hk (by decide) hi hdg kk
theorem yt_ls (C0 : gm_C p s m args meth c cc nL ret wy RX1) (hz : gs_Z G (yw G q r) A s H locs) {i v : Int32} (k : Nat) (hk : k < 48) (hi : i = nI k) (hv : vp_nar .boolean v = v) (hdg : decode cc pc = .ok (.bastore, 1)) (kk : ∀ (H1 : Heap) (locs1 : List Loc), gs_Z G (yw G q (ys_ls r (upd (y_ls r) k v))) A s H1 locs1 → W p l e R s m args below meth c H1 locs1 cells slots Q (F0 m (pc + 1) ls rest)) : W p l e R s m args below meth c H locs cells slots Q (F0 m pc ls (.int v :: .int i :: .ref (q 6) :: rest)) := gs_stz C0.1.1 C0.1.2.1 hz 6 rfl rfl k hk (by decide) hi hv hdg (fun H1 locs1 h => kk H1 locs1 h)
theorem yg_by (C0 : gm_C p s m args meth c cc nL ret wy RX1) (hin : ∀ w ∈ wsX10, w ∈ wy) (hz : gs_Z G (yw G q r) A s H locs) (hl : Cond.fieldLink RX1 30 "HandleHeapModel" "bytes" "[I" ∈ wy) (hdg : decode cc pc = .ok (.getfield 30, 3)) (kk : W p l e R s m args below meth c H locs cells slots Q (F0 m (pc + 3) ls (.ref (q 7) :: rest))) : W p l e R s m args below meth c H locs cells slots Q (F0 m pc ls (.ref (q 0) :: rest)) := gs_get C0.1.1 C0.1.2.1 C0.1.2.2.2.2 hin C0.1.2.2.2.1 hz 0 rfl rfl 7 (by decide) rfl (C0.1.2.2.2.2 _ hl) rfl hdg kk
theorem yl_by (C0 : gm_C p s m args meth c cc nL ret wy RX1) (hz : gs_Z G (yw G q r) A s H locs) {i : Int32} (k : Nat) (hk : k < 49152) (hi : i = nI k) (hdg : decode cc pc = .ok (.iaload, 1)) (kk : W p l e R s m args below meth c H locs cells slots Q (F0 m (pc + 1) ls (.int (y_by r k) :: rest))) : W p l e R s m args below meth c H locs cells slots Q (F0 m pc ls (.int i :: .ref (q 7) :: rest)) := gs_ld C0.1.1 C0.1.2.1 hz 7 rfl rfl k hk (by decide) hi hdg kk
theorem yt_by (C0 : gm_C p s m args meth c cc nL ret wy RX1) (hz : gs_Z G (yw G q r) A s H locs) {i v : Int32} (k : Nat) (hk : k < 49152) (hi : i = nI k) (hdg : decode cc pc = .ok (.iastore, 1)) (kk : ∀ (H1 : Heap) (locs1 : List Loc), gs_Z G (yw G q (ys_by r (upd (y_by r) k v))) A s H1 locs1 → W p l e R s m args below meth c H1 locs1 cells slots Q (F0 m (pc + 1) ls rest)) : W p l e R s m args below meth c H locs cells slots Q (F0 m pc ls (.int v :: .int i :: .ref (q 7) :: rest)) := gs_st C0.1.1 C0.1.2.1 hz 7 rfl rfl k hk (by decide) hi hdg (fun H1 locs1 h => kk H1 locs1 h)
theorem yg_mv (C0 : gm_C p s m args meth c cc nL ret wy RX1) (hin : ∀ w ∈ wsX10, w ∈ wy) (hz : gs_Z G (yw G q r) A s H locs) (hl : Cond.fieldLink RX1 51 "HandleHeapModel" "moved" "I" ∈ wy) (hdg : decode cc pc = .ok (.getfield 51, 3)) (kk : W p l e R s m args below meth c H locs cells slots Q (F0 m (pc + 3) ls (.int (y_mv r) :: rest))) : W p l e R s m args below meth c H locs cells slots Q (F0 m pc ls (.ref (q 0) :: rest)) := gs_get C0.1.1 C0.1.2.1 C0.1.2.2.2.2 hin C0.1.2.2.2.1 hz 0 rfl rfl 8 (by decide) rfl (C0.1.2.2.2.2 _ hl) rfl hdg kk
theorem yp_mv (C0 : gm_C p s m args meth c cc nL ret wy RX1) (hin : ∀ w ∈ wsX10, w ∈ wy) (hz : gs_Z G (yw G q r) A s H locs) {v : Int32} (hl : Cond.fieldLink RX1 51 "HandleHeapModel" "moved" "I" ∈ wy) (hdg : decode cc pc = .ok (.putfield 51, 3)) (kk : ∀ (H1 : Heap) (locs1 : List Loc), gs_Z G (yw G q (ys_mv r v)) A s H1 locs1 → W p l e R s m args below meth c H1 locs1 cells slots Q (F0 m (pc + 3) ls rest)) : W p l e R s m args below meth c H locs cells slots Q (F0 m pc ls (.int v :: .ref (q 0) :: rest)) := gs_put C0.1.1 C0.1.2.1 C0.1.2.2.2.2 hin tyX1 tyX1_ok nmX1 C0.1.2.2.2.1 hz 0 rfl rfl 8 (by decide) rfl (C0.1.2.2.2.2 _ hl) rfl (by decide +kernel) (Nat.le_of_ble_eq_true rfl) hdg (fun H1 locs1 h => kk H1 locs1 h)
theorem yg_lo (C0 : gm_C p s m args meth c cc nL ret wy RX1) (hin : ∀ w ∈ wsX10, w ∈ wy) (hz : gs_Z G (yw G q r) A s H locs) (hl : Cond.fieldLink RX1 54 "HandleHeapModel" "lost" "I" ∈ wy) (hdg : decode cc pc = .ok (.getfield 54, 3)) (kk : W p l e R s m args below meth c H locs cells slots Q (F0 m (pc + 3) ls (.int (y_lo r) :: rest))) : W p l e R s m args below meth c H locs cells slots Q (F0 m pc ls (.ref (q 0) :: rest)) := gs_get C0.1.1 C0.1.2.1 C0.1.2.2.2.2 hin C0.1.2.2.2.1 hz 0 rfl rfl 9 (by decide) rfl (C0.1.2.2.2.2 _ hl) rfl hdg kk
theorem yp_lo (C0 : gm_C p s m args meth c cc nL ret wy RX1) (hin : ∀ w ∈ wsX10, w ∈ wy) (hz : gs_Z G (yw G q r) A s H locs) {v : Int32} (hl : Cond.fieldLink RX1 54 "HandleHeapModel" "lost" "I" ∈ wy) (hdg : decode cc pc = .ok (.putfield 54, 3)) (kk : ∀ (H1 : Heap) (locs1 : List Loc), gs_Z G (yw G q (ys_lo r v)) A s H1 locs1 → W p l e R s m args below meth c H1 locs1 cells slots Q (F0 m (pc + 3) ls rest)) : W p l e R s m args below meth c H locs cells slots Q (F0 m pc ls (.int v :: .ref (q 0) :: rest)) := gs_put C0.1.1 C0.1.2.1 C0.1.2.2.2.2 hin tyX1 tyX1_ok nmX1 C0.1.2.2.2.1 hz 0 rfl rfl 9 (by decide) rfl (C0.1.2.2.2.2 _ hl) rfl (by decide +kernel) (Nat.le_of_ble_eq_true rfl) hdg (fun H1 locs1 h => kk H1 locs1 h)
end
end
section
/-! small numbers, truth values; how the class's cells hold a state -/
def bI (b : Bool) : Int32 := if b = true then 1 else 0
theorem bI_nar (b : Bool) : vp_nar .boolean (bI b) = bI b := by cases b <;> decide
theorem bI_0 {b : Bool} : bI b = 0 ↔ b = false := by cases b <;> decide
/-- a number, or NONE -/
def oi (o : Option Nat) : Int32 := match o with
  | some k => nI k
  | none => -1
theorem n0_eq {a : Nat} (h : a < 2 ^ 31) : nI a = 0 ↔ a = 0 := by rw [← nI_0, nI_eq h (by decide)]
theorem n0_lt {a : Nat} (h : a < 2 ^ 31) : nI a < 0 ↔ False := ⟨fun q => nI_pos h q, fun q => q.elim⟩
theorem n0_ge {a : Nat} (h : a < 2 ^ 31) : 0 ≤ nI a ↔ True := ⟨fun _ => trivial, fun _ => nI_pos' h⟩
theorem n0_gt {a : Nat} (h : a < 2 ^ 31) : 0 < nI a ↔ 0 < a := by rw [← nI_0, nI_ltI (by decide) h]
theorem n0_le {a : Nat} (h : a < 2 ^ 31) : nI a ≤ 0 ↔ a = 0 := by rw [← nI_0, nI_leI h (by decide), Nat.le_zero]
theorem n0_ne {a : Nat} (h : a < 2 ^ 31) : nI a ≠ -1 := fun q => by
  have := nI_pos h
  rw [q] at this
  exact this (by decide)
theorem n0_ne2 {a : Nat} (h : a < 2 ^ 31) : nI a ≠ -2 := fun q => by
  have := nI_pos h
  rw [q] at this
  exact this (by decide)
theorem pg_le : ∀ (n : Nat) (R : List Nat), R.Nodup → (∀ x ∈ R, x < n) → R.length ≤ n := by
  intro n
  induction n with
  | zero =>
    intro R _ h
    cases R with
    | nil => exact Nat.le_refl _
    | cons x t => exact absurd (h x List.mem_cons_self) (Nat.not_lt_zero _)
  | succ n ih =>
    intro R hn h
    have h1 := ih (R.erase n) (hn.erase n) (fun x hx => by
      have h2 := (hn.mem_erase_iff).mp hx
      have h3 := h x h2.2
      have h4 := h2.1
      omega)
    by_cases hm : n ∈ R
    · rw [List.length_erase_of_mem hm] at h1
      omega
    · rw [List.erase_of_not_mem hm] at h1
      omega
theorem hg_nd {R : List Nat} {b n : Nat → Nat} (hI : hg_I R b n) : R.Nodup := by
  rw [List.Nodup, List.pairwise_iff_getElem]
  intro i j hi hj hij e
  have h1 : hg_at R i = hg_at R j := by
    unfold hg_at
    rw [List.getD_eq_getElem?_getD, List.getD_eq_getElem?_getD, List.getElem?_eq_getElem hi, List.getElem?_eq_getElem hj, e]
  have := hg_inj hI hi hj h1
  omega
/-- enough of a state to look at its gaps -/
def hs_J (S : hs_S) : Prop := hg_I (hs_R S) (hs_b S) (hs_n S) ∧ ∀ h, h ∈ hs_R S → h < 48 ∧ hs_u S h = 2
theorem hs_J.len {S : hs_S} (h : hs_J S) : (hs_R S).length ≤ 48 := pg_le 48 _ (hg_nd h.1) (fun x hx => (h.2 x hx).1)
theorem hs_J.at {S : hs_S} (h : hs_J S) {k : Nat} (hk : k < (hs_R S).length) : hg_at (hs_R S) k < 48 ∧ hs_u S (hg_at (hs_R S) k) = 2 := h.2 _ (hg_at_mem hk)
theorem hs_I.J {S : hs_S} (h : hs_I S) : hs_J S := ⟨h.1, fun x hx => (h.2.1 x).mp hx⟩
/-- what begin holds of a handle -/
def xb (u b : Nat) : Int32 := if u = 0 then -1 else if u = 1 then -2 else nI b
theorem xb_2 {u b : Nat} (h : u = 2) : xb u b = nI b := by unfold xb; rw [if_neg (by omega), if_neg (by omega)]
/-- the class's cells hold the state S -/
def rx (S : hs_S) (r : xr) : Prop :=
  (∀ h, h < 48 → x_bg r h = xb (hs_u S h) (hs_b S h)) ∧ (∀ h, h < 48 → x_ln r h = nI (hs_n S h)) ∧
  (∀ h, h < 48 → hs_u S h = 2 → x_fx r h = bI (hs_f S h) ∧ x_lk r h = bI (hs_l S h) ∧ x_ls r h = bI (hs_o S h)) ∧
  (x_nb r = nI (hs_R S).length ∧ ∀ k, k < (hs_R S).length → x_rw r k = nI (hg_at (hs_R S) k)) ∧
  (∀ h, h < 48 → hs_u S h = 2 → ∀ i, i < hs_n S h → x_hp r (hs_b S h + i) = hs_y S h i) ∧ x_mv r = hs_m S ∧ x_lo r = hs_x S
theorem hs_gl_le {S : hs_S} (hJ : hs_J S) {k : Nat} (hk : k ≤ (hs_R S).length) : hs_gl S k ≤ 1024 := Nat.le_trans (Nat.sub_le _ _) (hg_gele hJ.1 hk)
theorem hs_mx_le {S : hs_S} (hJ : hs_J S) : ∀ k, k ≤ (hs_R S).length + 1 → hs_mx S k ≤ 1024 := by
  intro k
  induction k with
  | zero => intro _; exact Nat.zero_le _
  | succ k ih =>
    intro hk
    have h1 := ih (by omega)
    have h2 := hs_gl_le hJ (k := k) (by omega)
    show max (hs_mx S k) (hs_gl S k) ≤ 1024
    omega
theorem hs_mx_st {S : hs_S} {k : Nat} (h1 : hs_mx S k < 2 ^ 31) (h2 : hs_gl S k < 2 ^ 31) : (if nI (hs_mx S k) < nI (hs_gl S k) then nI (hs_gl S k) else nI (hs_mx S k)) = nI (hs_mx S (k + 1)) := by
  have e : hs_mx S (k + 1) = max (hs_mx S k) (hs_gl S k) := rfl
  by_cases q : hs_mx S k < hs_gl S k
  · rw [if_pos ((nI_ltI h1 h2).mpr q), e, Nat.max_eq_right (Nat.le_of_lt q)]
  · rw [if_neg (fun z => q ((nI_ltI h1 h2).mp z)), e, Nat.max_eq_left (Nat.not_lt.mp q)]
end
section
/-! a handle leaves the row, comes into it: place by place -/
theorem hg_at_get {R : List Nat} {k : Nat} (h : k < R.length) : hg_at R k = R[k] := by
  unfold hg_at
  rw [List.getD_eq_getElem?_getD, List.getElem?_eq_getElem h]
  rfl
theorem ho_take {R : List Nat} {k : Nat} (h : k < R.length) : R.take (k + 1) = R.take k ++ [hg_at R k] := by
  rw [List.take_add_one, List.getElem?_eq_getElem h, hg_at_get h]
  rfl
theorem ho_step {R : List Nat} {h k : Nat} (hk : k < R.length) : hg_out (R.take (k + 1)) h = if hg_at R k = h then hg_out (R.take k) h else hg_out (R.take k) h ++ [hg_at R k] := by
  rw [ho_take hk]
  unfold hg_out
  rw [List.filter_append]
  by_cases e : hg_at R k = h
  · rw [if_pos e]
    simp [e]
  · rw [if_neg e]
    simp [e]
theorem ho_len {R : List Nat} {h k : Nat} : (hg_out (R.take k) h).length ≤ k := by
  unfold hg_out
  exact Nat.le_trans (List.length_filter_le _ _) (List.length_take_le _ _)
theorem ho_l {F : List Nat} {x j : Nat} (hj : j < F.length) : hg_at (F ++ [x]) j = hg_at F j := by
  unfold hg_at
  rw [List.getD_eq_getElem?_getD, List.getD_eq_getElem?_getD, List.getElem?_append_left hj]
theorem ho_r {F : List Nat} {x : Nat} : hg_at (F ++ [x]) F.length = x := by
  unfold hg_at
  rw [List.getD_eq_getElem?_getD, List.getElem?_append_right (Nat.le_refl _), Nat.sub_self]
  rfl
theorem ho_put {F : List Nat} {x : Nat} {w : Nat → Int32} (h : ∀ j, j < F.length → w j = nI (hg_at F j)) : ∀ j, j < (F ++ [x]).length → upd w F.length (nI x) j = nI (hg_at (F ++ [x]) j) := by
  intro j hj
  rw [List.length_append, List.length_singleton] at hj
  by_cases e : j = F.length
  · subst e; rw [pk_us, ho_r]
  · rw [pk_un e, ho_l (by omega)]; exact h j (by omega)
theorem hi_at {b : Nat → Nat} {h : Nat} : ∀ (R : List Nat) (k : Nat), k ≤ R.length → (∀ j, j < k → b (hg_at R j) ≤ b h) → (k < R.length → b h < b (hg_at R k)) → ∀ j, hg_at (hg_ins b h R) j = if j < k then hg_at R j else if j = k then h else hg_at R (j - 1) := by
  intro R
  induction R with
  | nil =>
    intro k hk _ _ j
    have : k = 0 := Nat.le_zero.mp hk
    subst this
    rw [if_neg (Nat.not_lt_zero _)]
    cases j with
    | zero => rw [if_pos rfl]; rfl
    | succ j => rw [if_neg (Nat.succ_ne_zero j)]; rfl
  | cons x t ih =>
    intro k hk h1 h2 j
    cases k with
    | zero =>
      have h3 : b h < b x := h2 (Nat.zero_lt_succ _)
      rw [hg_ins, if_pos h3, if_neg (Nat.not_lt_zero _)]
      cases j with
      | zero => rw [if_pos rfl]; rfl
      | succ j => rw [if_neg (Nat.succ_ne_zero j)]; rfl
    | succ k =>
      have h3 : b x ≤ b h := h1 0 (Nat.zero_lt_succ _)
      rw [hg_ins, if_neg (Nat.not_lt.mpr h3)]
      cases j with
      | zero => rw [if_pos (Nat.zero_lt_succ _)]; rfl
      | succ j =>
        have h4 := ih k (Nat.le_of_succ_le_succ hk) (fun i hi => h1 (i + 1) (Nat.succ_lt_succ hi)) (fun hi => h2 (Nat.succ_lt_succ hi)) j
        have h5 : hg_at (x :: hg_ins b h t) (j + 1) = hg_at (hg_ins b h t) j := rfl
        rw [h5, h4]
        by_cases q : j < k
        · rw [if_pos q, if_pos (Nat.succ_lt_succ q)]; rfl
        · rw [if_neg q, if_neg (fun z => q (Nat.lt_of_succ_lt_succ z))]
          by_cases q2 : j = k
          · rw [if_pos q2, if_pos (by omega)]
          · rw [if_neg q2, if_neg (by omega)]
            obtain ⟨i, rfl⟩ : ∃ i, j = i + 1 := ⟨j - 1, by omega⟩
            rfl
theorem en_fin {R : List Nat} {b : Nat → Nat} {h k : Nat} {w : Nat → Int32} (hs : ∀ i j, i < j → j < R.length → b (hg_at R i) ≤ b (hg_at R j)) (hk : k ≤ R.length) (h1 : ∀ j, j < k → w j = nI (hg_at R j)) (h2 : ∀ j, k ≤ j → j < R.length → w (j + 1) = nI (hg_at R j) ∧ b h < b (hg_at R j)) (h3 : k = 0 ∨ b (hg_at R (k - 1)) ≤ b h) :
    ∀ j, j < R.length + 1 → upd w k (nI h) j = nI (hg_at (hg_ins b h R) j) := by
  have h4 : ∀ j, j < k → b (hg_at R j) ≤ b h := by
    intro j hj
    rcases h3 with h3 | h3
    · omega
    · by_cases e : j = k - 1
      · rw [e]; exact h3
      · exact Nat.le_trans (hs j (k - 1) (by omega) (by omega)) h3
  intro j hj
  rw [hi_at R k hk h4 (fun q => (h2 k (Nat.le_refl _) q).2) j]
  by_cases q : j < k
  · rw [if_pos q, pk_un (by omega)]; exact h1 j q
  · rw [if_neg q]
    by_cases q2 : j = k
    · rw [if_pos q2, q2, pk_us]
    · rw [if_neg q2, pk_un q2]
      obtain ⟨i, rfl⟩ : ∃ i, j = i + 1 := ⟨j - 1, by omega⟩
      exact (h2 i (by omega) (by omega)).1
theorem fl_no {f : Nat → Int32} {x y : Nat} {v : Int32} (h : y ≤ x) : f = (fun j => if x ≤ j ∧ j < y then v else f j) := by
  funext j
  rw [if_neg (by omega)]
section GCP
variable {p : Program} {l : Launch} {e : Env} {R : Room} {s : State} {m : MethodId} {args : Array Value} {below : List Frame} {meth : Method} {c : Code} {H : Heap} {locs : List Loc} {cells slots : Nat} {Q : State → Prop}
variable {cc : ByteArray} {pc : Nat} {ls : Array Slot} {rest : List Value} {G : gs_G} {ws : va_W} {A : Nat → Prop} {a : Nat}
/-- System.arraycopy within one array of ints -/
theorem gs_copy {nL index : Nat} {ret : Option FieldType} {wy : List Cond} {own : String} (C0 : gm_C p s m args meth c cc nL ret wy own) (hz : gs_Z G ws A s H locs) (i0 : Nat) {n : Nat} {f : Nat → Int32} (ha : ws[i0]? = some (a, .inl (G.2.1, n, .inl f))) (x y k : Nat) (h1 : x + k ≤ n) (h2 : y + k ≤ n) (hn : n < 2 ^ 31)
    (w1 : Cond.methodLink own index arraycopyName ∈ wy) (w2 : Cond.native arraycopyName ∈ wy) (w3 : Cond.static arraycopyName ∈ wy) (w4 : Cond.initialized "java/lang/System" ∈ wy) (hsize : ls.size = nL) (hf : 1 ≤ R.frames) (hl : (rest.map fun v => v.category).sum + (nativeFrameWords "java/lang/System" "arraycopy" 5 + 11) ≤ R.locals) (hdg : decode cc pc = .ok (.invokestatic index, 3))
    (kk : ∀ (H1 : Heap) (locs1 : List Loc), gs_Z G (ws.set i0 (a, .inl (G.2.1, n, .inl (va_cpy f f x y k)))) A s H1 locs1 → W p l e R s m args below meth c H1 locs1 cells slots Q (F0 m (pc + 3) ls rest)) : W p l e R s m args below meth c H locs cells slots Q (F0 m pc ls (.int (nI k) :: .int (nI y) :: .ref a :: .int (nI x) :: .ref a :: rest)) := by
  obtain ⟨⟨hx, hb, hml, hown, hts⟩, -, -, -⟩ := C0
  have c1 : (nI x).toNatClampNeg = x := nI_clamp (by omega)
  have c2 : (nI y).toNatClampNeg = y := nI_clamp (by omega)
  have c3 : (nI k).toNatClampNeg = k := nI_clamp (by omega)
  refine va_copyi hx hb (by rw [hml, hsize]) hown (hts _ w1) (hts _ w2) (hts _ w3) (hts _ w4) hz.1 hz.2.1 hz.2.2.1 hz.2.2.2.1 i0 i0 0 0 ha ha rfl rfl rfl (nI_pos (by omega)) (nI_pos (by omega)) (nI_pos (by omega)) (by rw [c1, c3]; exact h1) (by rw [c2, c3]; exact h2) (fun _ _ => rfl) hf hl hdg (fun H1 locs1 g1 g2 g3 => ?_)
  rw [c1, c2, c3] at g1 g2
  exact kk H1 locs1 ⟨hz.1, g1, g2, g3, hz.2.2.2.2⟩
end GCP
end
section
/-! the state's own steps: what holds of them, and that the class's cells follow -/
theorem xb_lt {v a b : Nat} (h : v < 2) : xb v a = xb v b := by
  unfold xb
  by_cases q : v = 0
  · rw [if_pos q, if_pos q]
  · rw [if_neg q, if_neg q, if_pos (by omega), if_pos (by omega)]
theorem hs_tk_I {S : hs_S} (hI : hs_I S) {h v : Nat} (hv : v < 2) : hs_I (hs_tk S h v) := by
  obtain ⟨h1, h2, h3⟩ := hI
  refine ⟨hg_I_cg (hg_I_out (h := h) h1) (fun x _ => rfl) (fun x hx => ?_), fun x => ?_, fun x hx hu => ?_⟩
  · exact va_up_ne _ _ (hg_out_mem.mp hx).2
  · show x ∈ hg_out (hs_R S) h ↔ x < 48 ∧ va_up (hs_u S) h v x = 2
    rw [hg_out_mem, h2 x]
    by_cases e : x = h
    · subst e
      rw [va_up_self]
      constructor
      · rintro ⟨-, q⟩; exact absurd rfl q
      · rintro ⟨-, q⟩; omega
    · rw [va_up_ne _ _ e]
      constructor
      · rintro ⟨q, -⟩; exact q
      · intro q; exact ⟨q, e⟩
  · have hu : va_up (hs_u S) h v x ≠ 2 := hu
    show va_up (hs_n S) h 0 x = 0 ∧ va_up (hs_u S) h v x < 2
    by_cases e : x = h
    · subst e; rw [va_up_self, va_up_self]; exact ⟨rfl, hv⟩
    · rw [va_up_ne _ _ e] at hu ⊢; rw [va_up_ne _ _ e]; exact h3 x hx hu
theorem hs_gu_I {S : hs_S} (hI : hs_I S) {h : Nat} : hs_I (hs_gu S h) := hs_tk_I hI (h := h) (v := 1) (by omega)
theorem rx_tk {S : hs_S} {r : xr} (hS : rx S r) {h v : Nat} (hh : h < 48) (hv : v < 2) {w : Nat → Int32} (hw : ∀ k, k < (hg_out (hs_R S) h).length → w k = nI (hg_at (hg_out (hs_R S) h) k)) :
    rx (hs_tk S h v) (xs_ln (xs_bg (xs_nb (xs_rw r w) (nI (hg_out (hs_R S) h).length)) (upd (x_bg r) h (xb v 0))) (upd (x_ln r) h (nI 0))) := by
  obtain ⟨h1, h2, h3, h4, h5, h6, h7⟩ := hS
  refine ⟨fun g hg => ?_, fun g hg => ?_, fun g hg hu => ?_, ⟨rfl, hw⟩, fun g hg hu i hi => ?_, h6, h7⟩
  · show upd (x_bg r) h (xb v 0) g = xb (va_up (hs_u S) h v g) (hs_b S g)
    by_cases e : g = h
    · subst e; rw [pk_us, va_up_self]; exact xb_lt hv
    · rw [pk_un e, va_up_ne _ _ e]; exact h1 g hg
  · show upd (x_ln r) h (nI 0) g = nI (va_up (hs_n S) h 0 g)
    by_cases e : g = h
    · subst e; rw [pk_us, va_up_self]
    · rw [pk_un e, va_up_ne _ _ e]; exact h2 g hg
  · have hu : va_up (hs_u S) h v g = 2 := hu
    have e : g ≠ h := fun e => by subst e; rw [va_up_self] at hu; omega
    rw [va_up_ne _ _ e] at hu
    exact h3 g hg hu
  · have hu : va_up (hs_u S) h v g = 2 := hu
    have hi : i < va_up (hs_n S) h 0 g := hi
    have e : g ≠ h := fun e => by subst e; rw [va_up_self] at hu; omega
    rw [va_up_ne _ _ e] at hu hi
    exact h5 g hg hu i hi
theorem rx_lo {S : hs_S} {r : xr} {h : Nat} (hS : rx (hs_tk S h 1) r) : rx (hs_gu S h) (xs_lo r (x_lo r + 1)) := by
  obtain ⟨h1, h2, h3, h4, h5, h6, h7⟩ := hS
  exact ⟨h1, h2, h3, h4, h5, h6, by show x_lo r + 1 = hs_x S + 1; rw [h7]; rfl⟩
/-- a block goes to another byte -/
theorem rx_go {S : hs_S} {r : xr} (hS : rx S r) {h a : Nat} (hh : h < 48) (hu : hs_u S h = 2) (hd : ∀ g, g < 48 → g ≠ h → hs_u S g = 2 → hs_b S g + hs_n S g ≤ a ∨ a + hs_n S h ≤ hs_b S g) :
    rx (hs_go S h a) (if a = hs_b S h then r else xs_mv (xs_bg (xs_hp r (va_cpy (x_hp r) (x_hp r) (hs_b S h) a (hs_n S h))) (upd (x_bg r) h (nI a))) (x_mv r + nI (hs_n S h))) := by
  obtain ⟨h1, h2, h3, h4, h5, h6, h7⟩ := hS
  by_cases e : a = hs_b S h
  · rw [if_pos e]
    have e1 : va_up (hs_b S) h a = hs_b S := by
      funext g
      by_cases q : g = h
      · subst q; rw [va_up_self]; exact e
      · rw [va_up_ne _ _ q]
    have e2 : hs_go S h a = S := by
      unfold hs_go
      rw [e1, if_pos e]
      rfl
    rw [e2]
    exact ⟨h1, h2, h3, h4, h5, h6, h7⟩
  · rw [if_neg e]
    refine ⟨fun g hg => ?_, h2, h3, h4, fun g hg hug i hi => ?_, ?_, h7⟩
    · show upd (x_bg r) h (nI a) g = xb (hs_u S g) (va_up (hs_b S) h a g)
      by_cases q : g = h
      · subst q; rw [pk_us, va_up_self, xb_2 hu]
      · rw [pk_un q, va_up_ne _ _ q]; exact h1 g hg
    · have hug : hs_u S g = 2 := hug
      have hi : i < hs_n S g := hi
      show va_cpy (x_hp r) (x_hp r) (hs_b S h) a (hs_n S h) (va_up (hs_b S) h a g + i) = hs_y S g i
      by_cases q : g = h
      · subst q
        rw [va_up_self, pk_cpy_in (by omega) (by omega), show hs_b S g + (a + i - a) = hs_b S g + i by omega]
        exact h5 g hg hug i hi
      · rw [va_up_ne _ _ q, pk_cpy_out (by have := hd g hg q hug; omega)]
        exact h5 g hg hug i hi
    · show x_mv r + nI (hs_n S h) = if a = hs_b S h then hs_m S else hs_m S + nI (hs_n S h)
      rw [if_neg e, h6]
/-- it gets n bytes where it stands -/
theorem rx_sz {S : hs_S} {r : xr} (hS : rx S r) {h n : Nat} (hh : h < 48) (hu : hs_u S h = 2) (hd : ∀ g, g < 48 → g ≠ h → hs_u S g = 2 → hs_b S g + hs_n S g ≤ hs_b S h ∨ hs_b S h + n ≤ hs_b S g) :
    rx (hs_sz S h n) (xs_ln (xs_hp r (fun j => if hs_b S h + hs_n S h ≤ j ∧ j < hs_b S h + n then 0 else x_hp r j)) (upd (x_ln r) h (nI n))) := by
  obtain ⟨h1, h2, h3, h4, h5, h6, h7⟩ := hS
  refine ⟨h1, fun g hg => ?_, h3, h4, fun g hg hug i hi => ?_, h6, h7⟩
  · show upd (x_ln r) h (nI n) g = nI (va_up (hs_n S) h n g)
    by_cases q : g = h
    · subst q; rw [pk_us, va_up_self]
    · rw [pk_un q, va_up_ne _ _ q]; exact h2 g hg
  · have hug : hs_u S g = 2 := hug
    have hi : i < va_up (hs_n S) h n g := hi
    show (if hs_b S h + hs_n S h ≤ hs_b S g + i ∧ hs_b S g + i < hs_b S h + n then 0 else x_hp r (hs_b S g + i)) = va_up (hs_y S) h (fun i => if hs_n S h ≤ i then 0 else hs_y S h i) g i
    by_cases q : g = h
    · subst q
      rw [va_up_self] at hi ⊢
      by_cases q2 : hs_n S g ≤ i
      · rw [if_pos (by omega), if_pos q2]
      · rw [if_neg (by omega), if_neg q2]; exact h5 g hg hug i (by omega)
    · rw [va_up_ne _ _ q] at hi ⊢
      have := hd g hg q hug
      rw [if_neg (by omega)]
      exact h5 g hg hug i hi
/-- only the row changes -/
def hs_row (S : hs_S) (R : List Nat) : hs_S := (R, hs_b S, hs_n S, hs_u S, hs_f S, hs_l S, hs_o S, hs_y S, hs_m S, hs_x S)
theorem rx_row {S : hs_S} {r : xr} (hS : rx S r) {R : List Nat} {w : Nat → Int32} (hw : ∀ k, k < R.length → w k = nI (hg_at R k)) : rx (hs_row S R) (xs_nb (xs_rw r w) (nI R.length)) := by
  obtain ⟨h1, h2, h3, h4, h5, h6, h7⟩ := hS
  exact ⟨h1, h2, h3, ⟨rfl, hw⟩, h5, h6, h7⟩
/-- a handle without a block gets one of no byte at a, not fixed, not locked, not losable or as told; then its length is set -/
def hs_at (S : hs_S) (h a : Nat) : hs_S := (hs_R S, va_up (hs_b S) h a, va_up (hs_n S) h 0, va_up (hs_u S) h 2, hs_f S, hs_l S, hs_o S, hs_y S, hs_m S, hs_x S)
theorem rx_mk {S : hs_S} {r : xr} (hS : rx S r) {h a n : Nat} {fx : Bool} (hh : h < 48) (hu : hs_u S h ≠ 2) (hn0 : hs_n S h = 0) (hd : ∀ g, g < 48 → hs_u S g = 2 → hs_b S g + hs_n S g ≤ a ∨ a + n ≤ hs_b S g) {w : Nat → Int32} (hw : ∀ k, k < (hs_R S).length + 1 → w k = nI (hg_at (hg_ins (va_up (hs_b S) h a) h (hs_R S)) k)) :
    rx (hs_mk S h a n fx) (xs_nb (xs_rw (xs_ls (xs_lk (xs_fx (xs_ln (xs_hp (xs_bg r (upd (x_bg r) h (nI a))) (fun j => if a + 0 ≤ j ∧ j < a + n then 0 else x_hp r j)) (upd (x_ln r) h (nI n))) (upd (x_fx r) h (bI fx))) (upd (x_lk r) h (nI 0))) (upd (x_ls r) h (nI 0))) w) (nI ((hs_R S).length + 1))) := by
  obtain ⟨h1, h2, h3, h4, h5, h6, h7⟩ := hS
  have hlen : (hs_R (hs_mk S h a n fx)).length = (hs_R S).length + 1 := hg_ins_len
  refine ⟨fun g hg => ?_, fun g hg => ?_, fun g hg hug => ?_, ⟨by rw [hlen]; rfl, fun k hk => hw k (by rw [hlen] at hk; exact hk)⟩, fun g hg hug i hi => ?_, h6, h7⟩
  · show upd (x_bg r) h (nI a) g = xb (va_up (hs_u S) h 2 g) (va_up (hs_b S) h a g)
    by_cases q : g = h
    · subst q; rw [pk_us, va_up_self, va_up_self, xb_2 rfl]
    · rw [pk_un q, va_up_ne _ _ q, va_up_ne _ _ q]; exact h1 g hg
  · show upd (x_ln r) h (nI n) g = nI (va_up (hs_n S) h n g)
    by_cases q : g = h
    · subst q; rw [pk_us, va_up_self]
    · rw [pk_un q, va_up_ne _ _ q]; exact h2 g hg
  · have hug : va_up (hs_u S) h 2 g = 2 := hug
    show upd (x_fx r) h (bI fx) g = bI (va_up (hs_f S) h fx g) ∧ upd (x_lk r) h (nI 0) g = bI (va_up (hs_l S) h false g) ∧ upd (x_ls r) h (nI 0) g = bI (va_up (hs_o S) h false g)
    by_cases q : g = h
    · subst q; rw [pk_us, pk_us, pk_us, va_up_self, va_up_self, va_up_self]; exact ⟨rfl, rfl, rfl⟩
    · rw [pk_un q, pk_un q, pk_un q, va_up_ne _ _ q, va_up_ne _ _ q, va_up_ne _ _ q]
      rw [va_up_ne _ _ q] at hug
      exact h3 g hg hug
  · have hug : va_up (hs_u S) h 2 g = 2 := hug
    have hi : i < va_up (hs_n S) h n g := hi
    show (if a + 0 ≤ va_up (hs_b S) h a g + i ∧ va_up (hs_b S) h a g + i < a + n then 0 else x_hp r (va_up (hs_b S) h a g + i)) = va_up (hs_y S) h (fun _ => 0) g i
    by_cases q : g = h
    · subst q
      rw [va_up_self] at hi ⊢
      rw [va_up_self, if_pos (by omega)]
    · rw [va_up_ne _ _ q] at hi hug ⊢
      rw [va_up_ne _ _ q]
      have := hd g hg hug
      rw [if_neg (by omega)]
      exact h5 g hg hug i hi
/-- it goes elsewhere and grows there -/
theorem rx_gr {S : hs_S} {r : xr} (hS : rx S r) {h a n : Nat} (hh : h < 48) (hu : hs_u S h = 2) (hne : a ≠ hs_b S h) (hn : hs_n S h ≤ n) (hd : ∀ g, g < 48 → g ≠ h → hs_u S g = 2 → hs_b S g + hs_n S g ≤ a ∨ a + n ≤ hs_b S g) {r1 r2 r3 : xr} {w1 w2 : Nat → Int32}
    (e1 : r1 = xs_nb (xs_rw r w1) (nI (hg_out (hs_R S) h).length)) (e2 : r2 = if a = hs_b S h then r1 else xs_mv (xs_bg (xs_hp r1 (va_cpy (x_hp r1) (x_hp r1) (hs_b S h) a (hs_n S h))) (upd (x_bg r1) h (nI a))) (x_mv r1 + nI (hs_n S h))) (e3 : r3 = xs_nb (xs_rw r2 w2) (nI ((hg_out (hs_R S) h).length + 1)))
    (hw : ∀ k, k < (hg_out (hs_R S) h).length + 1 → w2 k = nI (hg_at (hg_ins (va_up (hs_b S) h a) h (hg_out (hs_R S) h)) k)) :
    rx (hs_gr S h a n) (xs_ln (xs_hp r3 (fun j => if a + hs_n S h ≤ j ∧ j < a + n then 0 else x_hp r3 j)) (upd (x_ln r3) h (nI n))) := by
  obtain ⟨h1, h2, h3, h4, h5, h6, h7⟩ := hS
  rw [if_neg hne] at e2
  subst e1; subst e2; subst e3
  have hlen : (hs_R (hs_gr S h a n)).length = (hg_out (hs_R S) h).length + 1 := hg_ins_len
  refine ⟨fun g hg => ?_, fun g hg => ?_, h3, ⟨by rw [hlen]; rfl, fun k hk => hw k (by rw [hlen] at hk; exact hk)⟩, fun g hg hug i hi => ?_, ?_, h7⟩
  · show upd (x_bg r) h (nI a) g = xb (hs_u S g) (va_up (hs_b S) h a g)
    by_cases q : g = h
    · subst q; rw [pk_us, va_up_self, xb_2 hu]
    · rw [pk_un q, va_up_ne _ _ q]; exact h1 g hg
  · show upd (x_ln r) h (nI n) g = nI (va_up (hs_n S) h n g)
    by_cases q : g = h
    · subst q; rw [pk_us, va_up_self]
    · rw [pk_un q, va_up_ne _ _ q]; exact h2 g hg
  · have hug : hs_u S g = 2 := hug
    have hi : i < va_up (hs_n S) h n g := hi
    show (if a + hs_n S h ≤ va_up (hs_b S) h a g + i ∧ va_up (hs_b S) h a g + i < a + n then 0 else va_cpy (x_hp r) (x_hp r) (hs_b S h) a (hs_n S h) (va_up (hs_b S) h a g + i)) = va_up (hs_y S) h (fun i => if hs_n S h ≤ i then 0 else hs_y S h i) g i
    by_cases q : g = h
    · subst q
      rw [va_up_self] at hi
      rw [va_up_self, va_up_self]
      by_cases q2 : hs_n S g ≤ i
      · rw [if_pos (by omega), if_pos q2]
      · rw [if_neg (by omega), if_neg q2, pk_cpy_in (by omega) (by omega), show hs_b S g + (a + i - a) = hs_b S g + i by omega]
        exact h5 g hg hug i (by omega)
    · rw [va_up_ne _ _ q] at hi
      rw [va_up_ne _ _ q, va_up_ne _ _ q]
      have := hd g hg q hug
      rw [if_neg (by omega), pk_cpy_out (by omega)]
      exact h5 g hg hug i hi
  · show x_mv r + nI (hs_n S h) = hs_m S + nI (hs_n S h)
    rw [h6]
/-- the slid states -/
theorem hs_slk_I {S : hs_S} (hI : hs_I S) {k : Nat} (hk : k ≤ (hs_R S).length) : hs_I (hs_slk S k) := ⟨(hg_sl_I hI.1 k hk).1, hI.2.1, hI.2.2⟩
theorem hs_sl_I {S : hs_S} (hI : hs_I S) : hs_I (hs_sl S) := hs_slk_I hI (Nat.le_refl _)
theorem hs_slk_s {S : hs_S} (hI : hs_I S) {k : Nat} (hk : k < (hs_R S).length) : hs_slk S (k + 1) = if hs_mv S (hg_at (hs_R S) k) = true then hs_go (hs_slk S k) (hg_at (hs_R S) k) (hs_gb (hs_slk S k) k) else hs_slk S k := by
  have e0 := (hg_sl_I (mv := hs_mv S) hI.1 k (by omega)).2 k (Nat.le_refl _) hk
  by_cases q : hs_mv S (hg_at (hs_R S) k) = true
  · rw [if_pos q]
    unfold hs_slk hs_go
    have e1 : hg_slb (hs_R S) (hs_n S) (hs_mv S) (hs_b S) (k + 1) = va_up (hg_slb (hs_R S) (hs_n S) (hs_mv S) (hs_b S) k) (hg_at (hs_R S) k) (hg_gb (hs_R S) (hg_slb (hs_R S) (hs_n S) (hs_mv S) (hs_b S) k) (hs_n S) k) := by rw [hg_slb, if_pos q]
    have e2 : hg_slm (hs_R S) (hs_n S) (hs_mv S) (hs_b S) (hs_m S) (k + 1) = if hg_gb (hs_R S) (hg_slb (hs_R S) (hs_n S) (hs_mv S) (hs_b S) k) (hs_n S) k = hg_slb (hs_R S) (hs_n S) (hs_mv S) (hs_b S) k (hg_at (hs_R S) k) then hg_slm (hs_R S) (hs_n S) (hs_mv S) (hs_b S) (hs_m S) k else hg_slm (hs_R S) (hs_n S) (hs_mv S) (hs_b S) (hs_m S) k + nI (hs_n S (hg_at (hs_R S) k)) := by
      rw [hg_slm, e0]
      by_cases z : hg_gb (hs_R S) (hg_slb (hs_R S) (hs_n S) (hs_mv S) (hs_b S) k) (hs_n S) k = hs_b S (hg_at (hs_R S) k)
      · rw [if_pos z, if_neg (fun y => y.2 z)]
      · rw [if_neg z, if_pos ⟨q, z⟩]
    rw [e1, e2]
    rfl
  · rw [if_neg q]
    unfold hs_slk
    have e1 : hg_slb (hs_R S) (hs_n S) (hs_mv S) (hs_b S) (k + 1) = hg_slb (hs_R S) (hs_n S) (hs_mv S) (hs_b S) k := by rw [hg_slb, if_neg q]
    have e2 : hg_slm (hs_R S) (hs_n S) (hs_mv S) (hs_b S) (hs_m S) (k + 1) = hg_slm (hs_R S) (hs_n S) (hs_mv S) (hs_b S) (hs_m S) k := by rw [hg_slm, if_neg (fun y => q y.1)]
    rw [e1, e2]
/-- the target of a slide is free of the others -/
theorem hs_sl_d {T : hs_S} (hI : hs_I T) {k : Nat} (hk : k < (hs_R T).length) : ∀ g, g < 48 → g ≠ hg_at (hs_R T) k → hs_u T g = 2 → hs_b T g + hs_n T g ≤ hs_gb T k ∨ hs_gb T k + hs_n T (hg_at (hs_R T) k) ≤ hs_b T g := by
  intro g hg hne hu
  obtain ⟨j, hj, rfl⟩ := hg_at_of ((hI.2.1 g).mpr ⟨hg, hu⟩)
  rcases Nat.lt_trichotomy j k with q | q | q
  · exact Or.inl (hg_gbge hI.1 q (by omega))
  · subst q; exact absurd rfl hne
  · have h1 := hg_ord hI.1 q hj
    have h2 := hg_lo hI.1 hk
    refine Or.inr ?_
    have h3 : hs_gb T k ≤ hs_b T (hg_at (hs_R T) k) := h2
    omega
theorem hs_fk_ok {S : hs_S} {n : Nat} : ∀ (d k j : Nat), hs_fk S n d k = some j → k ≤ j ∧ j < k + d ∧ n ≤ hs_gl S j := by
  intro d
  induction d with
  | zero => intro k j h; cases h
  | succ d ih =>
    intro k j h
    rw [hs_fk] at h
    by_cases q : n ≤ hs_gl S k
    · rw [if_pos q] at h
      cases h
      exact ⟨Nat.le_refl _, by omega, q⟩
    · rw [if_neg q] at h
      have := ih (k + 1) j h
      exact ⟨by omega, by omega, this.2.2⟩
theorem hs_pk_ok {S : hs_S} {n j : Nat} (h : hs_pk S n = some j) : j ≤ (hs_R S).length ∧ n ≤ hs_gl S j := by
  have := hs_fk_ok _ _ _ h
  exact ⟨by omega, this.2.2⟩
theorem hs_lf_ok {S : hs_S} {but : Nat} : ∀ (d k h : Nat), hs_lf S but d k = some h → k + d ≤ (hs_R S).length → h ∈ hs_R S ∧ h ≠ but ∧ hs_o S h = true ∧ hs_mv S h = true := by
  intro d
  induction d with
  | zero => intro k h e; cases e
  | succ d ih =>
    intro k h e hk
    rw [hs_lf] at e
    by_cases q : hg_at (hs_R S) k ≠ but ∧ hs_o S (hg_at (hs_R S) k) = true ∧ hs_mv S (hg_at (hs_R S) k) = true
    · rw [if_pos q] at e
      cases e
      exact ⟨hg_at_mem (by omega), q⟩
    · rw [if_neg q] at e
      exact ih (k + 1) h e (by omega)
theorem hs_l1_ok {S : hs_S} {but h : Nat} (e : hs_l1 S but = some h) : h ∈ hs_R S ∧ h ≠ but ∧ hs_o S h = true ∧ hs_mv S h = true := hs_lf_ok _ _ _ e (by omega)
/-- what ROOM leaves as it was: the handles without a block, and the one that asks -/
def hs_same (but : Nat) (S T : hs_S) : Prop := hs_I T ∧ (∀ g, g < 48 → hs_u S g ≠ 2 → hs_u T g = hs_u S g) ∧ (but < 48 → hs_u S but = 2 → hs_u T but = 2 ∧ hs_n T but = hs_n S but)
theorem hs_same.sl {but : Nat} {S T : hs_S} (h : hs_same but S T) : hs_same but S (hs_sl T) := ⟨hs_sl_I h.1, h.2.1, h.2.2⟩
theorem hs_same.gu {but : Nat} {S T : hs_S} (h : hs_same but S T) {x : Nat} (hx : x ∈ hs_R T) (hne : x ≠ but) : hs_same but S (hs_gu T x) := by
  have hx2 := (h.1.2.1 x).mp hx
  refine ⟨hs_gu_I h.1, fun g hg hu => ?_, fun hb hu => ?_⟩
  · have h1 := h.2.1 g hg hu
    show va_up (hs_u T) x 1 g = hs_u S g
    have e : g ≠ x := fun e => by subst e; rw [hx2.2] at h1; exact hu h1.symm
    rw [va_up_ne _ _ e]; exact h1
  · have h1 := h.2.2 hb hu
    show va_up (hs_u T) x 1 but = 2 ∧ va_up (hs_n T) x 0 but = hs_n S but
    rw [va_up_ne _ _ (Ne.symm hne), va_up_ne _ _ (Ne.symm hne)]; exact h1
theorem hs_rm_ok {S : hs_S} {n but : Nat} : ∀ (d : Nat) (T : hs_S), hs_same but S T → hs_same but S (hs_rm n but d T).1 ∧ ∀ k, (hs_rm n but d T).2 = some k → k ≤ (hs_R (hs_rm n but d T).1).length ∧ n ≤ hs_gl (hs_rm n but d T).1 k := by
  intro d
  induction d with
  | zero => intro T h; exact ⟨h, fun k e => hs_pk_ok e⟩
  | succ d ih =>
    intro T h
    rw [hs_rm]
    cases e : hs_pk T n with
    | some k => exact ⟨h, fun j e2 => by cases e2; exact hs_pk_ok e⟩
    | none =>
      dsimp only
      cases e1 : hs_l1 T but with
      | none => exact ⟨h, fun j e2 => by cases e2⟩
      | some x =>
        have hx := hs_l1_ok e1
        exact ih _ ((h.gu hx.1 hx.2.1).sl)
theorem hs_room_ok {S : hs_S} (hI : hs_I S) (n but : Nat) : hs_same but S (hs_room S n but).1 ∧ ∀ k, (hs_room S n but).2 = some k → k ≤ (hs_R (hs_room S n but).1).length ∧ n ≤ hs_gl (hs_room S n but).1 k := by
  have h0 : hs_same but S S := ⟨hI, fun _ _ _ => rfl, fun _ h => ⟨h, rfl⟩⟩
  unfold hs_room
  cases e : hs_pk S n with
  | some k => exact ⟨h0, fun j e2 => by cases e2; exact hs_pk_ok e⟩
  | none => exact hs_rm_ok 48 _ h0.sl
/-- a gap that has n bytes is free of every block -/
theorem hs_gap_d {S : hs_S} (hI : hs_I S) {k n : Nat} (hk : k ≤ (hs_R S).length) (hn : n ≤ hs_gl S k) : ∀ g, g < 48 → hs_u S g = 2 → hs_b S g + hs_n S g ≤ hs_gb S k ∨ hs_gb S k + n ≤ hs_b S g := by
  intro g hg hu
  have h1 := hg_off hI.1 ((hI.2.1 g).mpr ⟨hg, hu⟩) hk
  have h2 := hI.1.1 k hk
  have h3 : n ≤ hg_ge (hs_R S) (hs_b S) k - hg_gb (hs_R S) (hs_b S) (hs_n S) k := hn
  have h4 : hs_gb S k = hg_gb (hs_R S) (hs_b S) (hs_n S) k := rfl
  omega
theorem hs_gap_e {S : hs_S} (hI : hs_I S) {k n : Nat} (hk : k ≤ (hs_R S).length) (hn : n ≤ hs_gl S k) : hs_gb S k + n ≤ 1024 := by
  have h1 := hg_gele hI.1 hk
  have h2 := hI.1.1 k hk
  have h3 : n ≤ hg_ge (hs_R S) (hs_b S) k - hg_gb (hs_R S) (hs_b S) (hs_n S) k := hn
  have h4 : hs_gb S k = hg_gb (hs_R S) (hs_b S) (hs_n S) k := rfl
  omega
end
section
/-! what always holds stays so -/
theorem hs_mk_I {S : hs_S} (hI : hs_I S) {h a n : Nat} {fx : Bool} (hh : h < 48) (hu : hs_u S h ≠ 2) (hn : 1 ≤ n) (he : a + n ≤ 1024) (hd : ∀ g, g < 48 → hs_u S g = 2 → hs_b S g + hs_n S g ≤ a ∨ a + n ≤ hs_b S g) : hs_I (hs_mk S h a n fx) := by
  obtain ⟨h1, h2, h3⟩ := hI
  have hne : ∀ x, x ∈ hs_R S → x ≠ h := fun x hx e => by subst e; exact hu ((h2 x).mp hx).2
  refine ⟨?_, fun x => ?_, fun x hx hux => ?_⟩
  · show hg_I (hg_ins (va_up (hs_b S) h a) h (hs_R S)) (va_up (hs_b S) h a) (va_up (hs_n S) h n)
    refine hg_I_ins (hg_I_cg h1 (fun x hx => va_up_ne _ _ (hne x hx)) (fun x hx => va_up_ne _ _ (hne x hx))) (by rw [va_up_self]; exact hn) (by rw [va_up_self, va_up_self]; exact he) (fun x hx => ?_)
    rw [va_up_ne _ _ (hne x hx), va_up_ne _ _ (hne x hx), va_up_self, va_up_self]
    have hx2 := (h2 x).mp hx
    exact hd x hx2.1 hx2.2
  · show x ∈ hg_ins (va_up (hs_b S) h a) h (hs_R S) ↔ x < 48 ∧ va_up (hs_u S) h 2 x = 2
    rw [hg_ins_mem, h2 x]
    by_cases e : x = h
    · subst e; rw [va_up_self]; exact ⟨fun _ => ⟨hh, rfl⟩, fun _ => Or.inl rfl⟩
    · rw [va_up_ne _ _ e]
      constructor
      · rintro (q | q)
        · exact absurd q e
        · exact q
      · intro q; exact Or.inr q
  · have hux : va_up (hs_u S) h 2 x ≠ 2 := hux
    have e : x ≠ h := fun e => by subst e; rw [va_up_self] at hux; exact hux rfl
    show va_up (hs_n S) h n x = 0 ∧ va_up (hs_u S) h 2 x < 2
    rw [va_up_ne _ _ e] at hux
    rw [va_up_ne _ _ e, va_up_ne _ _ e]
    exact h3 x hx hux
theorem hs_gr_I {S : hs_S} (hI : hs_I S) {h a n : Nat} (hh : h < 48) (hu : hs_u S h = 2) (hn : 1 ≤ n) (he : a + n ≤ 1024) (hd : ∀ g, g < 48 → g ≠ h → hs_u S g = 2 → hs_b S g + hs_n S g ≤ a ∨ a + n ≤ hs_b S g) : hs_I (hs_gr S h a n) := by
  obtain ⟨h1, h2, h3⟩ := hI
  have hne : ∀ x, x ∈ hg_out (hs_R S) h → x ≠ h := fun x hx => (hg_out_mem.mp hx).2
  refine ⟨?_, fun x => ?_, fun x hx hux => ?_⟩
  · show hg_I (hg_ins (va_up (hs_b S) h a) h (hg_out (hs_R S) h)) (va_up (hs_b S) h a) (va_up (hs_n S) h n)
    refine hg_I_ins (hg_I_cg (hg_I_out (h := h) h1) (fun x hx => va_up_ne _ _ (hne x hx)) (fun x hx => va_up_ne _ _ (hne x hx))) (by rw [va_up_self]; exact hn) (by rw [va_up_self, va_up_self]; exact he) (fun x hx => ?_)
    rw [va_up_ne _ _ (hne x hx), va_up_ne _ _ (hne x hx), va_up_self, va_up_self]
    have hx2 := (h2 x).mp (hg_out_mem.mp hx).1
    exact hd x hx2.1 (hne x hx) hx2.2
  · show x ∈ hg_ins (va_up (hs_b S) h a) h (hg_out (hs_R S) h) ↔ x < 48 ∧ hs_u S x = 2
    rw [hg_ins_mem, hg_out_mem, h2 x]
    by_cases e : x = h
    · subst e; exact ⟨fun _ => ⟨hh, hu⟩, fun _ => Or.inl rfl⟩
    · constructor
      · rintro (q | q)
        · exact absurd q e
        · exact q.1
      · intro q; exact Or.inr ⟨q, e⟩
  · have e : x ≠ h := fun e => by subst e; exact hux hu
    show va_up (hs_n S) h n x = 0 ∧ hs_u S x < 2
    rw [va_up_ne _ _ e]
    exact h3 x hx hux
theorem hs_sz_I {S : hs_S} (hI : hs_I S) {k n : Nat} (hk : k < (hs_R S).length) (hn : 1 ≤ n) (he : hs_b S (hg_at (hs_R S) k) + n ≤ hg_ge (hs_R S) (hs_b S) (k + 1)) : hs_I (hs_sz S (hg_at (hs_R S) k) n) := by
  obtain ⟨h1, h2, h3⟩ := hI
  refine ⟨⟨fun j hj => ?_, fun j hj => ?_⟩, h2, fun x hx hux => ?_⟩
  · show hg_gb (hs_R S) (hs_b S) (va_up (hs_n S) (hg_at (hs_R S) k) n) j ≤ hg_ge (hs_R S) (hs_b S) j
    have hj : j ≤ (hs_R S).length := hj
    have h4 := h1.1 j hj
    cases j with
    | zero => exact h4
    | succ i =>
      rw [hg_gbs] at h4 ⊢
      by_cases e : i = k
      · subst e; rw [va_up_self]; exact he
      · rw [va_up_ne _ _ (fun z => e (hg_inj h1 (by omega) hk z))]; exact h4
  · show 1 ≤ va_up (hs_n S) (hg_at (hs_R S) k) n (hg_at (hs_R S) j)
    have hj : j < (hs_R S).length := hj
    by_cases e : j = k
    · subst e; rw [va_up_self]; exact hn
    · rw [va_up_ne _ _ (fun z => e (hg_inj h1 hj hk z))]; exact h1.2 j hj
  · have hux : hs_u S x ≠ 2 := hux
    have e : x ≠ hg_at (hs_R S) k := fun e => by subst e; exact hux ((h2 _).mp (hg_at_mem hk)).2
    show va_up (hs_n S) (hg_at (hs_R S) k) n x = 0 ∧ hs_u S x < 2
    rw [va_up_ne _ _ e]
    exact h3 x hx hux
theorem hs_go_I {S : hs_S} (hI : hs_I S) {k a : Nat} (hk : k < (hs_R S).length) (h1 : hs_gb S k ≤ a) (h2 : a + hs_n S (hg_at (hs_R S) k) ≤ hg_ge (hs_R S) (hs_b S) (k + 1)) : hs_I (hs_go S (hg_at (hs_R S) k) a) := ⟨hg_I_move hI.1 hk h1 h2, hI.2.1, hI.2.2⟩
/-- what lies about block k up to the next one is free of the others -/
theorem hs_near_d {S : hs_S} (hI : hs_I S) {k : Nat} (hk : k < (hs_R S).length) : ∀ g, g < 48 → g ≠ hg_at (hs_R S) k → hs_u S g = 2 → hs_b S g + hs_n S g ≤ hs_b S (hg_at (hs_R S) k) ∨ hg_ge (hs_R S) (hs_b S) (k + 1) ≤ hs_b S g := by
  intro g hg hne hu
  obtain ⟨j, hj, rfl⟩ := hg_at_of ((hI.2.1 g).mpr ⟨hg, hu⟩)
  rcases Nat.lt_trichotomy j k with q | q | q
  · exact Or.inl (hg_ord hI.1 q hk)
  · subst q; exact absurd rfl hne
  · refine Or.inr ?_
    rw [hg_gek (by omega)]
    by_cases e : j = k + 1
    · rw [e]; exact Nat.le_refl _
    · have := hg_ord hI.1 (i := k + 1) (j := j) (by omega) hj
      omega
theorem hs_lock_I {S : hs_S} (hI : hs_I S) (h : Nat) (v : Bool) : hs_I (hs_R S, hs_b S, hs_n S, hs_u S, hs_f S, va_up (hs_l S) h v, hs_o S, hs_y S, hs_m S, hs_x S) := hI
theorem hs_los_I {S : hs_S} (hI : hs_I S) (h : Nat) (v : Bool) : hs_I (hs_R S, hs_b S, hs_n S, hs_u S, hs_f S, hs_l S, va_up (hs_o S) h v, hs_y S, hs_m S, hs_x S) := hI
theorem hs_J.ge {S : hs_S} (h : hs_J S) {k : Nat} (hk : k < (hs_R S).length) : hs_b S (hg_at (hs_R S) k) + hs_n S (hg_at (hs_R S) k) ≤ 1024 := hg_end h.1 hk
theorem hs_I.out {S : hs_S} (hI : hs_I S) {h : Nat} (hu : hs_u S h ≠ 2) : h ∉ hs_R S := fun q => hu ((hI.2.1 h).mp q).2
theorem hs_I.len47 {S : hs_S} (hI : hs_I S) {h : Nat} (hh : h < 48) (hu : h ∉ hs_R S) : (hs_R S).length ≤ 47 := by
  have h1 := pg_le 48 (h :: hs_R S) (List.nodup_cons.mpr ⟨hu, hg_nd hI.1⟩) (fun x hx => by
    rcases List.mem_cons.mp hx with e | e
    · rw [e]; exact hh
    · exact ((hI.2.1 x).mp e).1)
  rw [List.length_cons] at h1
  omega
theorem hs_out_len {S : hs_S} (hI : hs_I S) {h : Nat} (hh : h < 48) : (hg_out (hs_R S) h).length ≤ 47 := by
  have h1 := hg_nd (hg_I_out (h := h) hI.1)
  have h2 := pg_le 48 (h :: hg_out (hs_R S) h) (List.nodup_cons.mpr ⟨fun q => (hg_out_mem.mp q).2 rfl, h1⟩) (fun x hx => by
    rcases List.mem_cons.mp hx with e | e
    · rw [e]; exact hh
    · exact ((hI.2.1 x).mp (hg_out_mem.mp e).1).1)
  rw [List.length_cons] at h2
  omega
end
section
/-! WHAT EACH CALL ASKS: (0: it returns; else which throw of its own list), the answer, the state then -/
abbrev sp_T : Type := Nat × Int32 × hs_S
def nd (lo hi : Nat) (x : Int32) : Option Nat := if nI lo ≤ x ∧ x ≤ nI hi then some x.toNatClampNeg else none
theorem nd_some {lo hi : Nat} {x : Int32} {k : Nat} (hh : hi < 2 ^ 31) (hl : lo ≤ hi) (h : nd lo hi x = some k) : lo ≤ k ∧ k ≤ hi ∧ x = nI k := by
  unfold nd at h
  by_cases q : nI lo ≤ x ∧ x ≤ nI hi
  · rw [if_pos q] at h
    cases h
    have h0 : ¬ x < 0 := fun z => by
      have h1 := nI_pos' (n := lo) (by omega)
      have h2 : (0 : Int32) ≤ x := Int32.le_trans h1 q.1
      exact absurd z (Int32.not_lt.mpr h2)
    obtain ⟨j, hj, rfl⟩ := nI_of h0
    rw [nI_clamp hj]
    rw [nI_leI (by omega) hj, nI_leI hj hh] at q
    exact ⟨q.1, q.2, rfl⟩
  · rw [if_neg q] at h
    cases h
theorem nd_nI {lo hi k : Nat} (hh : hi < 2 ^ 31) (hl : lo ≤ k) (hk : k ≤ hi) : nd lo hi (nI k) = some k := by
  unfold nd
  rw [if_pos ⟨(nI_leI (by omega) (by omega)).mpr hl, (nI_leI (by omega) hh).mpr hk⟩, nI_clamp (by omega)]
theorem nd_none {lo hi : Nat} {x : Int32} (h : ¬ (nI lo ≤ x ∧ x ≤ nI hi)) : nd lo hi x = none := by
  unfold nd
  rw [if_neg h]
theorem nd_cases (lo hi : Nat) (x : Int32) (hh : hi < 2 ^ 31) (hl : lo ≤ hi) : (∃ k, lo ≤ k ∧ k ≤ hi ∧ x = nI k ∧ nd lo hi x = some k) ∨ (nd lo hi x = none ∧ ¬ ∃ k, lo ≤ k ∧ k ≤ hi ∧ x = nI k) := by
  cases e : nd lo hi x with
  | some k =>
    obtain ⟨h1, h2, h3⟩ := nd_some hh hl e
    exact Or.inl ⟨k, h1, h2, h3, rfl⟩
  | none =>
    refine Or.inr ⟨rfl, fun ⟨k, h1, h2, h3⟩ => ?_⟩
    rw [h3, nd_nI hh h1 h2] at e
    cases e
/-- where a handle stands in the row -/
def hg_ix (h : Nat) : List Nat → Nat
  | [] => 0
  | x :: t => if x = h then 0 else hg_ix h t + 1
theorem hg_ix_ok {h : Nat} : ∀ {R : List Nat}, h ∈ R → hg_ix h R < R.length ∧ hg_at R (hg_ix h R) = h := by
  intro R
  induction R with
  | nil => intro q; cases q
  | cons x t ih =>
    intro q
    rw [hg_ix]
    by_cases e : x = h
    · rw [if_pos e]; exact ⟨Nat.zero_lt_succ _, e⟩
    · rw [if_neg e]
      rcases List.mem_cons.mp q with z | z
      · exact absurd z.symm e
      · have := ih z
        exact ⟨Nat.succ_lt_succ this.1, this.2⟩
/-- how many bytes are free behind a handle's block -/
def hs_fb (S : hs_S) (h : Nat) : Nat := hs_gl S (hg_ix h (hs_R S) + 1)
/-- a handle's state of use asked for: f what is done with a handle in use -/
def sp_use (S : hs_S) (x : Int32) (f : Nat → sp_T) : sp_T := match nd 0 47 x with
  | none => (1, 0, S)
  | some h => if hs_u S h = 0 then (1, 0, S) else f h
def sp_has (S : hs_S) (x : Int32) (f : Nat → sp_T) : sp_T := sp_use S x (fun h => if hs_u S h = 1 then (2, 0, S) else f h)
def sp_mk (S : hs_S) (h n : Nat) (fx : Bool) (a b : Int32) : sp_T := match (hs_room S n 48).2 with
  | none => (0, b, (hs_room S n 48).1)
  | some k => (0, a, hs_mk (hs_room S n 48).1 h (hs_gb (hs_room S n 48).1 k) n fx)
def sp_ask (S : hs_S) (x : Int32) (fx : Bool) : sp_T := match nd 1 1024 x with
  | none => (1, 0, S)
  | some n => match hs_lu (hs_u S) 0 48 with
    | none => (0, -1, S)
    | some h => sp_mk S h n fx (nI h) (-1)
def sp_drop (S : hs_S) (x : Int32) : sp_T := sp_use S x (fun h => (0, nI (hs_n S h), hs_tk S h 0))
def sp_gr (S : hs_S) (h n : Nat) : sp_T := match (hs_room S n h).2 with
  | none => (0, nI 0, (hs_room S n h).1)
  | some k => (0, nI 1, hs_gr (hs_room S n h).1 h (hs_gb (hs_room S n h).1 k) n)
def sp_resize (S : hs_S) (x y : Int32) : sp_T := sp_use S x (fun h => match nd 1 1024 y with
  | none => (1, 0, S)
  | some n => if hs_u S h = 1 then sp_mk S h n false (nI 1) (nI 0) else if n ≤ hs_n S h + hs_fb S h then (0, nI 1, hs_sz S h n) else if hs_mv S h = true then sp_gr S h n else (0, nI 0, S))
def sp_lock (S : hs_S) (x : Int32) (v : Bool) : sp_T := sp_has S x (fun h => (0, bI (hs_l S h), (hs_R S, hs_b S, hs_n S, hs_u S, hs_f S, va_up (hs_l S) h v, hs_o S, hs_y S, hs_m S, hs_x S)))
def sp_losable (S : hs_S) (x : Int32) (v : Bool) : sp_T := sp_has S x (fun h => (0, bI (hs_o S h), (hs_R S, hs_b S, hs_n S, hs_u S, hs_f S, hs_l S, va_up (hs_o S) h v, hs_y S, hs_m S, hs_x S)))
def sp_lose (S : hs_S) (x : Int32) : sp_T := sp_has S x (fun h => if hs_mv S h = true then (0, nI 1, hs_gu S h) else (0, nI 0, S))
def sp_lift (S : hs_S) (x : Int32) : sp_T := sp_has S x (fun h => if hs_mv S h = true then (0, nI (hs_fb S h), hs_go S h (hs_b S h + hs_fb S h)) else (2, 0, S))
def sp_slide (S : hs_S) : sp_T := (0, nI (hs_gg (hs_sl S)), hs_sl S)
def sp_clear (S : hs_S) (y : Int32) : sp_T := match nd 0 1024 y with
  | none => (1, 0, S)
  | some n => (0, nI (hs_cl n 48 S 0).2, (hs_cl n 48 S 0).1)
def sp_where (S : hs_S) (x : Int32) : sp_T := match nd 0 47 x with
  | none => (1, 0, S)
  | some h => (0, xb (hs_u S h) (hs_b S h), S)
def sp_size (S : hs_S) (x : Int32) : sp_T := match nd 0 47 x with
  | none => (1, 0, S)
  | some h => (0, nI (hs_n S h), S)
def sp_put (S : hs_S) (x i v : Int32) : sp_T := match nd 0 255 v with
  | none => (1, 0, S)
  | some _ => sp_has S x (fun h => if 0 ≤ i ∧ i < nI (hs_n S h) then (0, hs_y S h i.toNatClampNeg, (hs_R S, hs_b S, hs_n S, hs_u S, hs_f S, hs_l S, hs_o S, va_up (hs_y S) h (va_up (hs_y S h) i.toNatClampNeg v), hs_m S, hs_x S)) else (3, 0, S))
def sp_get (S : hs_S) (x i : Int32) : sp_T := sp_has S x (fun h => if 0 ≤ i ∧ i < nI (hs_n S h) then (0, hs_y S h i.toNatClampNeg, S) else (3, 0, S))
/-- whose block has the byte a: from block k of the row on, of d more -/
def hs_ow (S : hs_S) (a : Nat) : Nat → Nat → Option Nat
  | 0, _ => none
  | d + 1, k => if hs_b S (hg_at (hs_R S) k) ≤ a ∧ a < hs_b S (hg_at (hs_R S) k) + hs_n S (hg_at (hs_R S) k) then some (hg_at (hs_R S) k) else hs_ow S a d (k + 1)
def sp_owner (S : hs_S) (x : Int32) : sp_T := match nd 0 1023 x with
  | none => (1, 0, S)
  | some a => (0, oi (hs_ow S a (hs_R S).length 0), S)
def sp_told (S : hs_S) (x : Int32) : sp_T := match nd 0 6 x with
  | none => (1, 0, S)
  | some 0 => (0, nI (hs_sm S ((hs_R S).length + 1)), S)
  | some 1 => (0, nI (hs_gg S), S)
  | some 2 => (0, nI (hs_ct S ((hs_R S).length + 1)), S)
  | some 3 => (0, nI (48 - hs_cn (hs_u S) 0 48), S)
  | some 4 => (0, nI (hs_cn (hs_u S) 1 48), S)
  | some 5 => (0, hs_m S, S)
  | some _ => (0, hs_x S, S)
def xIA : String := "java/lang/IllegalArgumentException"
def xIS : String := "java/lang/IllegalStateException"
def xIO : String := "java/lang/IndexOutOfBoundsException"
/-- which throw is which -/
def ex (k : Nat) (E : String) : Prop := (k = 1 ∧ E = xIA) ∨ (k = 2 ∧ E = xIS) ∨ (k = 3 ∧ E = xIO)
/-- what a call of the class's face owes: the answer and the state, or the throw -/
def px (t : sp_T) (res : Int32) (u : xr) : Prop := t.1 = 0 ∧ res = t.2.1 ∧ rx t.2.2 u
theorem sp_use_no {S : hs_S} {x : Int32} {f : Nat → sp_T} (h : ¬ ∃ k, k < 48 ∧ x = nI k ∧ hs_u S k ≠ 0) : sp_use S x f = (1, 0, S) := by
  unfold sp_use
  rcases nd_cases 0 47 x (by decide) (by decide) with ⟨k, -, h2, h3, h4⟩ | ⟨h4, -⟩
  · rw [h4]
    dsimp only
    by_cases q : hs_u S k = 0
    · rw [if_pos q]
    · exact absurd ⟨k, by omega, h3, q⟩ h
  · rw [h4]
theorem sp_use_h {S : hs_S} {h : Nat} {f : Nat → sp_T} (hh : h < 48) (hu : hs_u S h ≠ 0) : sp_use S (nI h) f = f h := by
  unfold sp_use
  rw [nd_nI (by decide) (Nat.zero_le _) (by omega)]
  dsimp only
  rw [if_neg hu]
theorem sp_has_no {S : hs_S} {x : Int32} {f : Nat → sp_T} (h : ¬ ∃ k, k < 48 ∧ x = nI k ∧ hs_u S k ≠ 0) : sp_has S x f = (1, 0, S) := sp_use_no h
theorem sp_has_e {S : hs_S} {h : Nat} {f : Nat → sp_T} (hh : h < 48) (hu : hs_u S h = 1) : sp_has S (nI h) f = (2, 0, S) := by
  unfold sp_has
  rw [sp_use_h hh (by omega), if_pos hu]
theorem sp_has_h {S : hs_S} {h : Nat} {f : Nat → sp_T} (hh : h < 48) (hu : hs_u S h = 2) : sp_has S (nI h) f = f h := by
  unfold sp_has
  rw [sp_use_h hh (by omega), if_neg (by omega)]
end
section
/-! HandleHeap, the readers -/
set_option maxHeartbeats 4000000 in
set_option maxRecDepth 100000 in
/-- endOf: where a handle's block begins and how many bytes it has, added -/
theorem k_endOf (l : Launch) (G : gs_G) (q : Nat → Nat) (r : xr) (h : Nat) (hh : h < 48) : gm_i l yX0_endOf wsX0_endOf (gm_rm 1 0 0) G (xw G q) r [.ref (q 0), .int (nI h)] (fun res u => u = r ∧ res = x_bg r h + x_ln r h) 0 0 := by
  refine gm_i.of (cc := cX0_endOf) (nL := 2) (ret := (some .int)) (by decide +kernel) rfl (Nat.le_of_ble_eq_true rfl) ?_
  intro p e s m args below meth c ls C0 hz hl
  have hin : ∀ w ∈ wsX00, w ∈ wsX0_endOf := by decide +kernel
  have l_bg : Cond.fieldLink RX0 13 "HandleHeap" "begin" "[I" ∈ wsX0_endOf := by decide +kernel
  have l_ln : Cond.fieldLink RX0 22 "HandleHeap" "length" "[I" ∈ wsX0_endOf := by decide +kernel
  have hl : lv_has ls 2 [(0, .ref (q 0)), (1, .int (nI h))] := hl
  refine lv_aload_n C0.1.1 C0.1.2.1 dX0_endOf_0 rfl (lv_at hl 0 rfl) ?_
  refine xg_bg C0 hin hz l_bg dX0_endOf_1 ?_
  refine lv_iload_n C0.1.1 C0.1.2.1 dX0_endOf_4 rfl (lv_at hl 1 rfl) ?_
  refine xl_bg C0 hz h (by omega) rfl dX0_endOf_5 ?_
  refine lv_aload_n C0.1.1 C0.1.2.1 dX0_endOf_6 rfl (lv_at hl 0 rfl) ?_
  refine xg_ln C0 hin hz l_ln dX0_endOf_7 ?_
  refine lv_iload_n C0.1.1 C0.1.2.1 dX0_endOf_10 rfl (lv_at hl 1 rfl) ?_
  refine xl_ln C0 hz h (by omega) rfl dX0_endOf_11 ?_
  refine lv_iadd C0.1.1 C0.1.2.1 dX0_endOf_12 ?_
  exact gs_reti r C0 hz (⟨rfl, rfl⟩) (Nat.le_of_ble_eq_true rfl) (Nat.le_of_ble_eq_true rfl) dX0_endOf_13
set_option maxHeartbeats 4000000 in
set_option maxRecDepth 100000 in
/-- isMovable -/
theorem k_isMovable (l : Launch) (G : gs_G) (q : Nat → Nat) (r : xr) (h : Nat) (hh : h < 48) : gm_i l yX0_isMovable wsX0_isMovable (gm_rm 1 0 0) G (xw G q) r [.ref (q 0), .int (nI h)] (fun res u => u = r ∧ res = bI (decide (x_fx r h = 0) && decide (x_lk r h = 0))) 0 0 := by
  refine gm_i.of (cc := cX0_isMovable) (nL := 2) (ret := (some .boolean)) (by decide +kernel) rfl (Nat.le_of_ble_eq_true rfl) ?_
  intro p e s m args below meth c ls C0 hz hl
  have hin : ∀ w ∈ wsX00, w ∈ wsX0_isMovable := by decide +kernel
  have l_fx : Cond.fieldLink RX0 25 "HandleHeap" "isFixed" "[Z" ∈ wsX0_isMovable := by decide +kernel
  have l_lk : Cond.fieldLink RX0 29 "HandleHeap" "isLocked" "[Z" ∈ wsX0_isMovable := by decide +kernel
  have hl : lv_has ls 2 [(0, .ref (q 0)), (1, .int (nI h))] := hl
  refine lv_aload_n C0.1.1 C0.1.2.1 dX0_isMovable_0 rfl (lv_at hl 0 rfl) ?_
  refine xg_fx C0 hin hz l_fx dX0_isMovable_1 ?_
  refine lv_iload_n C0.1.1 C0.1.2.1 dX0_isMovable_4 rfl (lv_at hl 1 rfl) ?_
  refine xl_fx C0 hz h (by omega) rfl dX0_isMovable_5 ?_
  refine lv_if_ne (tgt := 22) C0.1.1 C0.1.2.1 dX0_isMovable_6 (by decide) (fun c1 => ?_) (fun c1 => ?_)
  · skip
    refine lv_iconst (v := nI 0) C0.1.1 C0.1.2.1 dX0_isMovable_22 (by decide) ?_
    exact gs_retz r C0 hz (by decide) (⟨rfl, by rw [decide_eq_false c1]; rfl⟩) (Nat.le_of_ble_eq_true rfl) (Nat.le_of_ble_eq_true rfl) dX0_isMovable_23
  · skip
    refine lv_aload_n C0.1.1 C0.1.2.1 dX0_isMovable_9 rfl (lv_at hl 0 rfl) ?_
    refine xg_lk C0 hin hz l_lk dX0_isMovable_10 ?_
    refine lv_iload_n C0.1.1 C0.1.2.1 dX0_isMovable_13 rfl (lv_at hl 1 rfl) ?_
    refine xl_lk C0 hz h (by omega) rfl dX0_isMovable_14 ?_
    refine lv_if_ne (tgt := 22) C0.1.1 C0.1.2.1 dX0_isMovable_15 (by decide) (fun c2 => ?_) (fun c2 => ?_)
    · skip
      refine lv_iconst (v := nI 0) C0.1.1 C0.1.2.1 dX0_isMovable_22 (by decide) ?_
      exact gs_retz r C0 hz (by decide) (⟨rfl, by rw [decide_eq_false c2, Bool.and_false]; rfl⟩) (Nat.le_of_ble_eq_true rfl) (Nat.le_of_ble_eq_true rfl) dX0_isMovable_23
    · skip
      refine lv_iconst (v := nI 1) C0.1.1 C0.1.2.1 dX0_isMovable_18 (by decide) ?_
      refine lv_goto (tgt := 23) C0.1.1 C0.1.2.1 dX0_isMovable_19 (by decide) ?_
      exact gs_retz r C0 hz (by decide) (⟨rfl, by rw [decide_eq_true c1, decide_eq_true c2]; rfl⟩) (Nat.le_of_ble_eq_true rfl) (Nat.le_of_ble_eq_true rfl) dX0_isMovable_23
set_option maxHeartbeats 4000000 in
set_option maxRecDepth 100000 in
/-- gapBegin -/
theorem k_gapBegin (l : Launch) (G : gs_G) (q : Nat → Nat) (r : xr) (S : hs_S) (hS : rx S r) (hJ : hs_J S) (k : Nat) (hk : k ≤ (hs_R S).length) : gm_i l yX0_gapBegin wsX0_gapBegin (gm_rm 2 0 0) G (xw G q) r [.ref (q 0), .int (nI k)] (fun res u => u = r ∧ res = nI (hs_gb S k)) 0 0 := by
  refine gm_i.of (cc := cX0_gapBegin) (nL := 2) (ret := (some .int)) (by decide +kernel) rfl (Nat.le_of_ble_eq_true rfl) ?_
  intro p e s m args below meth c ls C0 hz hl
  have hin : ∀ w ∈ wsX00, w ∈ wsX0_gapBegin := by decide +kernel
  have l_rw : Cond.fieldLink RX0 35 "HandleHeap" "row" "[I" ∈ wsX0_gapBegin := by decide +kernel
  have hl : lv_has ls 2 [(0, .ref (q 0)), (1, .int (nI k))] := hl
  have hlen := hJ.len
  refine lv_iload_n C0.1.1 C0.1.2.1 dX0_gapBegin_0 rfl (lv_at hl 1 rfl) ?_
  refine lv_if_ne (tgt := 8) C0.1.1 C0.1.2.1 dX0_gapBegin_1 (by decide) (fun c1 => ?_) (fun c1 => ?_)
  · rw [n0_eq (by omega)] at c1
    have hk1 : k - 1 < (hs_R S).length := by omega
    have hat := hJ.at hk1
    refine lv_aload_n C0.1.1 C0.1.2.1 dX0_gapBegin_8 rfl (lv_at hl 0 rfl) ?_
    refine lv_aload_n C0.1.1 C0.1.2.1 dX0_gapBegin_9 rfl (lv_at hl 0 rfl) ?_
    refine xg_rw C0 hin hz l_rw dX0_gapBegin_10 ?_
    refine lv_iload_n C0.1.1 C0.1.2.1 dX0_gapBegin_13 rfl (lv_at hl 1 rfl) ?_
    refine lv_iconst (v := nI 1) C0.1.1 C0.1.2.1 dX0_gapBegin_14 (by decide) ?_
    refine lv_isub C0.1.1 C0.1.2.1 dX0_gapBegin_15 ?_
    refine gs_eq (pk_sub (by omega)) ?_
    refine xl_rw C0 hz (k - 1) (by omega) rfl dX0_gapBegin_16 ?_
    refine gs_eq (y := nI (hg_at (hs_R S) (k - 1))) (hS.2.2.2.1.2 _ hk1) ?_
    refine gs_callVi (w := xw G q) (wr := []) C0.1 (k_endOf l G q r (hg_at (hs_R S) (k - 1)) hat.1) (cwV 1 C0.1.2.2.2.2 gX0_gapBegin_X0_endOf rfl rfl rfl (by decide +kernel) ⟨Nat.le_of_ble_eq_true rfl, Nat.le_of_ble_eq_true rfl⟩) (ci := 0) rfl rfl rfl (gs_nil hz) rfl hl.1 rfl (Nat.le_of_ble_eq_true rfl) dX0_gapBegin_17 ⟨Nat.le_of_ble_eq_true rfl, Nat.le_of_ble_eq_true rfl⟩ (fun res u9 H locs hp9 hz => ?_)
    replace hz := gs_unnil hz
    rw [hp9.1] at hz
    refine gs_eq (y := nI (hs_gb S k)) (by rw [hp9.2, hS.1 _ hat.1, hS.2.1 _ hat.1, xb_2 hat.2, nI_add]; unfold hs_gb hg_gb; rw [if_neg (by omega)]) ?_
    clear hp9
    exact gs_reti r C0 hz (⟨rfl, rfl⟩) (Nat.le_of_ble_eq_true rfl) (Nat.le_of_ble_eq_true rfl) dX0_gapBegin_20
  · rw [n0_eq (by omega)] at c1
    refine lv_iconst (v := nI 0) C0.1.1 C0.1.2.1 dX0_gapBegin_4 (by decide) ?_
    refine lv_goto (tgt := 20) C0.1.1 C0.1.2.1 dX0_gapBegin_5 (by decide) ?_
    exact gs_reti r C0 hz (⟨rfl, by rw [c1]; rfl⟩) (Nat.le_of_ble_eq_true rfl) (Nat.le_of_ble_eq_true rfl) dX0_gapBegin_20
set_option maxHeartbeats 4000000 in
set_option maxRecDepth 100000 in
/-- gapLength -/
theorem k_gapLength (l : Launch) (G : gs_G) (q : Nat → Nat) (r : xr) (S : hs_S) (hS : rx S r) (hJ : hs_J S) (k : Nat) (hk : k ≤ (hs_R S).length) : gm_i l yX0_gapLength wsX0_gapLength (gm_rm 3 0 0) G (xw G q) r [.ref (q 0), .int (nI k)] (fun res u => u = r ∧ res = nI (hs_gl S k)) 0 0 := by
  refine gm_i.of (cc := cX0_gapLength) (nL := 3) (ret := (some .int)) (by decide +kernel) rfl (Nat.le_of_ble_eq_true rfl) ?_
  intro p e s m args below meth c ls C0 hz hl
  have hin : ∀ w ∈ wsX00, w ∈ wsX0_gapLength := by decide +kernel
  have l_nb : Cond.fieldLink RX0 38 "HandleHeap" "blocks" "I" ∈ wsX0_gapLength := by decide +kernel
  have l_bg : Cond.fieldLink RX0 13 "HandleHeap" "begin" "[I" ∈ wsX0_gapLength := by decide +kernel
  have l_rw : Cond.fieldLink RX0 35 "HandleHeap" "row" "[I" ∈ wsX0_gapLength := by decide +kernel
  have hl : lv_has ls 3 [(0, .ref (q 0)), (1, .int (nI k))] := hl
  have hlen := hJ.len
  have hge : hg_gb (hs_R S) (hs_b S) (hs_n S) k ≤ hg_ge (hs_R S) (hs_b S) k := hJ.1.1 k hk
  have hge2 : hg_ge (hs_R S) (hs_b S) k ≤ 1024 := hg_gele hJ.1 hk
  have hgl : nI (hg_ge (hs_R S) (hs_b S) k) - nI (hs_gb S k) = nI (hs_gl S k) := pk_sub hge
  refine lv_iload_n C0.1.1 C0.1.2.1 dX0_gapLength_0 rfl (lv_at hl 1 rfl) ?_
  refine lv_aload_n C0.1.1 C0.1.2.1 dX0_gapLength_1 rfl (lv_at hl 0 rfl) ?_
  refine xg_nb C0 hin hz l_nb dX0_gapLength_2 ?_
  refine gs_eq (y := nI ((hs_R S).length)) (hS.2.2.2.1.1) ?_
  refine lv_icmp_ne (tgt := 14) C0.1.1 C0.1.2.1 dX0_gapLength_5 (by decide) (fun c1 => ?_) (fun c1 => ?_)
  · rw [nI_eq (by omega) (by omega)] at c1
    have hk1 : k < (hs_R S).length := by omega
    have hat := hJ.at hk1
    refine lv_aload_n C0.1.1 C0.1.2.1 dX0_gapLength_14 rfl (lv_at hl 0 rfl) ?_
    refine xg_bg C0 hin hz l_bg dX0_gapLength_15 ?_
    refine lv_aload_n C0.1.1 C0.1.2.1 dX0_gapLength_18 rfl (lv_at hl 0 rfl) ?_
    refine xg_rw C0 hin hz l_rw dX0_gapLength_19 ?_
    refine lv_iload_n C0.1.1 C0.1.2.1 dX0_gapLength_22 rfl (lv_at hl 1 rfl) ?_
    refine xl_rw C0 hz k (by omega) rfl dX0_gapLength_23 ?_
    refine gs_eq (y := nI (hg_at (hs_R S) k)) (hS.2.2.2.1.2 _ hk1) ?_
    refine xl_bg C0 hz (hg_at (hs_R S) k) (hat.1) rfl dX0_gapLength_24 ?_
    refine gs_eq (y := nI (hg_ge (hs_R S) (hs_b S) k)) (by rw [hS.1 _ hat.1, xb_2 hat.2, hg_gek hk1]) ?_
    refine lv_istore_n (lv' := [(2, .int (nI (hg_ge (hs_R S) (hs_b S) k))), (0, .ref (q 0)), (1, .int (nI k))]) C0.1.1 C0.1.2.1 dX0_gapLength_25 rfl hl (by decide) rfl (fun ls hl => ?_)
    refine lv_iload_n C0.1.1 C0.1.2.1 dX0_gapLength_26 rfl (lv_at hl 0 rfl) ?_
    refine lv_aload_n C0.1.1 C0.1.2.1 dX0_gapLength_27 rfl (lv_at hl 1 rfl) ?_
    refine lv_iload_n C0.1.1 C0.1.2.1 dX0_gapLength_28 rfl (lv_at hl 2 rfl) ?_
    refine gs_callVi (w := xw G q) (wr := []) C0.1 (k_gapBegin l G q r S hS hJ k hk) (cwV 1 C0.1.2.2.2.2 gX0_gapLength_X0_gapBegin rfl rfl rfl (by decide +kernel) ⟨Nat.le_of_ble_eq_true rfl, Nat.le_of_ble_eq_true rfl⟩) (ci := 0) rfl rfl rfl (gs_nil hz) rfl hl.1 rfl (Nat.le_of_ble_eq_true rfl) dX0_gapLength_29 ⟨Nat.le_of_ble_eq_true rfl, Nat.le_of_ble_eq_true rfl⟩ (fun res u9 H locs hp9 hz => ?_)
    replace hz := gs_unnil hz
    rw [hp9.1] at hz
    refine gs_eq (y := nI (hs_gb S k)) (hp9.2) ?_
    clear hp9
    refine lv_isub C0.1.1 C0.1.2.1 dX0_gapLength_32 ?_
    refine gs_eq (y := nI (hs_gl S k)) (hgl) ?_
    exact gs_reti r C0 hz (⟨rfl, rfl⟩) (Nat.le_of_ble_eq_true rfl) (Nat.le_of_ble_eq_true rfl) dX0_gapLength_33
  · rw [nI_eq (by omega) (by omega)] at c1
    refine lv_sipush (v := nI 1024) C0.1.1 C0.1.2.1 dX0_gapLength_8 (by decide) ?_
    refine lv_goto (tgt := 25) C0.1.1 C0.1.2.1 dX0_gapLength_11 (by decide) ?_
    refine gs_eq (y := nI (hg_ge (hs_R S) (hs_b S) k)) (by rw [c1, hg_geL]) ?_
    refine lv_istore_n (lv' := [(2, .int (nI (hg_ge (hs_R S) (hs_b S) k))), (0, .ref (q 0)), (1, .int (nI k))]) C0.1.1 C0.1.2.1 dX0_gapLength_25 rfl hl (by decide) rfl (fun ls hl => ?_)
    refine lv_iload_n C0.1.1 C0.1.2.1 dX0_gapLength_26 rfl (lv_at hl 0 rfl) ?_
    refine lv_aload_n C0.1.1 C0.1.2.1 dX0_gapLength_27 rfl (lv_at hl 1 rfl) ?_
    refine lv_iload_n C0.1.1 C0.1.2.1 dX0_gapLength_28 rfl (lv_at hl 2 rfl) ?_
    refine gs_callVi (w := xw G q) (wr := []) C0.1 (k_gapBegin l G q r S hS hJ k hk) (cwV 1 C0.1.2.2.2.2 gX0_gapLength_X0_gapBegin rfl rfl rfl (by decide +kernel) ⟨Nat.le_of_ble_eq_true rfl, Nat.le_of_ble_eq_true rfl⟩) (ci := 0) rfl rfl rfl (gs_nil hz) rfl hl.1 rfl (Nat.le_of_ble_eq_true rfl) dX0_gapLength_29 ⟨Nat.le_of_ble_eq_true rfl, Nat.le_of_ble_eq_true rfl⟩ (fun res u9 H locs hp9 hz => ?_)
    replace hz := gs_unnil hz
    rw [hp9.1] at hz
    refine gs_eq (y := nI (hs_gb S k)) (hp9.2) ?_
    clear hp9
    refine lv_isub C0.1.1 C0.1.2.1 dX0_gapLength_32 ?_
    refine gs_eq (y := nI (hs_gl S k)) (hgl) ?_
    exact gs_reti r C0 hz (⟨rfl, rfl⟩) (Nat.le_of_ble_eq_true rfl) (Nat.le_of_ble_eq_true rfl) dX0_gapLength_33
set_option maxHeartbeats 4000000 in
set_option maxRecDepth 100000 in
/-- firstGapOf -/
theorem k_firstGapOf (l : Launch) (G : gs_G) (q : Nat → Nat) (r : xr) (S : hs_S) (hS : rx S r) (hJ : hs_J S) (n : Nat) (hn : n ≤ 1024) : gm_i l yX0_firstGapOf wsX0_firstGapOf (gm_rm 4 0 0) G (xw G q) r [.ref (q 0), .int (nI n)] (fun res u => u = r ∧ res = oi (hs_pk S n)) 0 0 := by
  refine gm_i.of (cc := cX0_firstGapOf) (nL := 3) (ret := (some .int)) (by decide +kernel) rfl (Nat.le_of_ble_eq_true rfl) ?_
  intro p e s m args below meth c ls C0 hz hl
  have hin : ∀ w ∈ wsX00, w ∈ wsX0_firstGapOf := by decide +kernel
  have l_nb : Cond.fieldLink RX0 38 "HandleHeap" "blocks" "I" ∈ wsX0_firstGapOf := by decide +kernel
  have hl : lv_has ls 3 [(0, .ref (q 0)), (1, .int (nI n))] := hl
  have hlen := hJ.len
  refine lv_iconst (v := nI 0) C0.1.1 C0.1.2.1 dX0_firstGapOf_0 (by decide) ?_
  refine lv_istore_n (lv' := [(2, .int (nI 0)), (0, .ref (q 0)), (1, .int (nI n))]) C0.1.1 C0.1.2.1 dX0_firstGapOf_1 rfl hl (by decide) rfl (fun ls hl => ?_)
  have hl : lv_has ls 3 [(0, .ref (q 0)), (1, .int (nI n)), (2, .int (nI 0))] := lv_sub hl [1, 2, 0] rfl
  refine (?loop : ∀ (d k : Nat) (ls : Array Slot) (H : Heap) (locs : List Loc), gs_Z G (xw G q r) _ s H locs → k + d = (hs_R S).length + 1 → hs_pk S n = hs_fk S n d k → lv_has ls 3 [(0, .ref (q 0)), (1, .int (nI n)), (2, .int (nI k))] → W p l e _ s m args below meth c H locs 0 0 _ (F0 m 2 ls [])) _ 0 ls _ _ hz (Nat.zero_add _) rfl hl
  intro d
  induction d using Nat.strongRecOn with
  | _ d ih =>
    intro k ls H locs hz hd key hl
    refine lv_iload_n C0.1.1 C0.1.2.1 dX0_firstGapOf_2 rfl (lv_at hl 2 rfl) ?_
    refine lv_aload_n C0.1.1 C0.1.2.1 dX0_firstGapOf_3 rfl (lv_at hl 0 rfl) ?_
    refine xg_nb C0 hin hz l_nb dX0_firstGapOf_4 ?_
    refine gs_eq (y := nI ((hs_R S).length)) (hS.2.2.2.1.1) ?_
    refine lv_icmp_gt (tgt := 27) C0.1.1 C0.1.2.1 dX0_firstGapOf_7 (by decide) (fun c1 => ?_) (fun c1 => ?_)
    · rw [nI_ltI (by omega) (by omega)] at c1
      obtain rfl : d = 0 := by omega
      refine lv_iconst (v := (-1)) C0.1.1 C0.1.2.1 dX0_firstGapOf_27 (by decide) ?_
      exact gs_reti r C0 hz (⟨rfl, by rw [key]; rfl⟩) (Nat.le_of_ble_eq_true rfl) (Nat.le_of_ble_eq_true rfl) dX0_firstGapOf_28
    · rw [nI_ltI (by omega) (by omega)] at c1
      obtain ⟨d', rfl⟩ : ∃ d', d = d' + 1 := ⟨d - 1, by omega⟩
      have hk1 : k ≤ (hs_R S).length := by omega
      have hg1 : hs_gl S k ≤ 1024 := Nat.le_trans (Nat.sub_le _ _) (hg_gele hJ.1 hk1)
      refine lv_aload_n C0.1.1 C0.1.2.1 dX0_firstGapOf_10 rfl (lv_at hl 0 rfl) ?_
      refine lv_iload_n C0.1.1 C0.1.2.1 dX0_firstGapOf_11 rfl (lv_at hl 2 rfl) ?_
      refine gs_callVi (w := xw G q) (wr := []) C0.1 (k_gapLength l G q r S hS hJ k hk1) (cwV 1 C0.1.2.2.2.2 gX0_firstGapOf_X0_gapLength rfl rfl rfl (by decide +kernel) ⟨Nat.le_of_ble_eq_true rfl, Nat.le_of_ble_eq_true rfl⟩) (ci := 0) rfl rfl rfl (gs_nil hz) rfl hl.1 rfl (Nat.le_of_ble_eq_true rfl) dX0_firstGapOf_12 ⟨Nat.le_of_ble_eq_true rfl, Nat.le_of_ble_eq_true rfl⟩ (fun res u9 H locs hp9 hz => ?_)
      replace hz := gs_unnil hz
      rw [hp9.1] at hz
      refine gs_eq (y := nI (hs_gl S k)) (hp9.2) ?_
      clear hp9
      refine lv_iload_n C0.1.1 C0.1.2.1 dX0_firstGapOf_15 rfl (lv_at hl 1 rfl) ?_
      refine lv_icmp_lt (tgt := 21) C0.1.1 C0.1.2.1 dX0_firstGapOf_16 (by decide) (fun c2 => ?_) (fun c2 => ?_)
      · rw [nI_ltI (by omega) (by omega)] at c2
        refine lv_iinc (v := nI (k + 1)) (lv' := [(2, .int (nI (k + 1))), (0, .ref (q 0)), (1, .int (nI n))]) C0.1.1 C0.1.2.1 dX0_firstGapOf_21 hl (k := 2) rfl (nI_1 k) (by decide) rfl (fun ls hl => ?_)
        refine lv_goto (tgt := 2) C0.1.1 C0.1.2.1 dX0_firstGapOf_24 (by decide) ?_
        have hl : lv_has ls 3 [(0, .ref (q 0)), (1, .int (nI n)), (2, .int (nI (k + 1)))] := lv_sub hl [1, 2, 0] rfl
        exact ih d' (by omega) (k + 1) ls _ _ hz (by omega) (by rw [key, hs_fk, if_neg (by omega)]) hl
      · rw [nI_ltI (by omega) (by omega)] at c2
        refine lv_iload_n C0.1.1 C0.1.2.1 dX0_firstGapOf_19 rfl (lv_at hl 2 rfl) ?_
        exact gs_reti r C0 hz (⟨rfl, by rw [key, hs_fk, if_pos (by omega)]; rfl⟩) (Nat.le_of_ble_eq_true rfl) (Nat.le_of_ble_eq_true rfl) dX0_firstGapOf_20
set_option maxHeartbeats 4000000 in
set_option maxRecDepth 100000 in
/-- greatestGap -/
theorem k_greatestGap (l : Launch) (G : gs_G) (q : Nat → Nat) (r : xr) (S : hs_S) (hS : rx S r) (hJ : hs_J S) : gm_i l yX0_greatestGap wsX0_greatestGap (gm_rm 4 0 0) G (xw G q) r [.ref (q 0)] (fun res u => u = r ∧ res = nI (hs_gg S)) 0 0 := by
  refine gm_i.of (cc := cX0_greatestGap) (nL := 3) (ret := (some .int)) (by decide +kernel) rfl (Nat.le_of_ble_eq_true rfl) ?_
  intro p e s m args below meth c ls C0 hz hl
  have hin : ∀ w ∈ wsX00, w ∈ wsX0_greatestGap := by decide +kernel
  have l_nb : Cond.fieldLink RX0 38 "HandleHeap" "blocks" "I" ∈ wsX0_greatestGap := by decide +kernel
  have hl : lv_has ls 3 [(0, .ref (q 0))] := hl
  have hlen := hJ.len
  refine lv_iconst (v := nI 0) C0.1.1 C0.1.2.1 dX0_greatestGap_0 (by decide) ?_
  refine lv_istore_n (lv' := [(1, .int (nI 0)), (0, .ref (q 0))]) C0.1.1 C0.1.2.1 dX0_greatestGap_1 rfl hl (by decide) rfl (fun ls hl => ?_)
  refine lv_iconst (v := nI 0) C0.1.1 C0.1.2.1 dX0_greatestGap_2 (by decide) ?_
  refine lv_istore_n (lv' := [(2, .int (nI 0)), (1, .int (nI 0)), (0, .ref (q 0))]) C0.1.1 C0.1.2.1 dX0_greatestGap_3 rfl hl (by decide) rfl (fun ls hl => ?_)
  have hl : lv_has ls 3 [(0, .ref (q 0)), (1, .int (nI 0)), (2, .int (nI 0))] := lv_sub hl [2, 1, 0] rfl
  refine (?loop : ∀ (d k : Nat) (ls : Array Slot) (H : Heap) (locs : List Loc), gs_Z G (xw G q r) _ s H locs → k + d = (hs_R S).length + 1 → lv_has ls 3 [(0, .ref (q 0)), (1, .int (nI (hs_mx S k))), (2, .int (nI k))] → W p l e _ s m args below meth c H locs 0 0 _ (F0 m 4 ls [])) _ 0 ls _ _ hz (Nat.zero_add _) hl
  intro d
  induction d using Nat.strongRecOn with
  | _ d ih =>
    intro k ls H locs hz hd hl
    refine lv_iload_n C0.1.1 C0.1.2.1 dX0_greatestGap_4 rfl (lv_at hl 2 rfl) ?_
    refine lv_aload_n C0.1.1 C0.1.2.1 dX0_greatestGap_5 rfl (lv_at hl 0 rfl) ?_
    refine xg_nb C0 hin hz l_nb dX0_greatestGap_6 ?_
    refine gs_eq (y := nI ((hs_R S).length)) (hS.2.2.2.1.1) ?_
    refine lv_icmp_gt (tgt := 28) C0.1.1 C0.1.2.1 dX0_greatestGap_9 (by decide) (fun c1 => ?_) (fun c1 => ?_)
    · rw [nI_ltI (by omega) (by omega)] at c1
      obtain rfl : k = (hs_R S).length + 1 := by omega
      refine lv_iload_n C0.1.1 C0.1.2.1 dX0_greatestGap_28 rfl (lv_at hl 1 rfl) ?_
      exact gs_reti r C0 hz (⟨rfl, rfl⟩) (Nat.le_of_ble_eq_true rfl) (Nat.le_of_ble_eq_true rfl) dX0_greatestGap_29
    · rw [nI_ltI (by omega) (by omega)] at c1
      have hk1 : k ≤ (hs_R S).length := by omega
      have hm1 : hs_mx S k ≤ 1024 := hs_mx_le hJ k (by omega)
      have hg1 : hs_gl S k ≤ 1024 := Nat.le_trans (Nat.sub_le _ _) (hg_gele hJ.1 hk1)
      refine lv_iload_n C0.1.1 C0.1.2.1 dX0_greatestGap_12 rfl (lv_at hl 1 rfl) ?_
      refine lv_aload_n C0.1.1 C0.1.2.1 dX0_greatestGap_13 rfl (lv_at hl 0 rfl) ?_
      refine lv_iload_n C0.1.1 C0.1.2.1 dX0_greatestGap_14 rfl (lv_at hl 2 rfl) ?_
      refine gs_callVi (w := xw G q) (wr := []) C0.1 (k_gapLength l G q r S hS hJ k hk1) (cwV 1 C0.1.2.2.2.2 gX0_greatestGap_X0_gapLength rfl rfl rfl (by decide +kernel) ⟨Nat.le_of_ble_eq_true rfl, Nat.le_of_ble_eq_true rfl⟩) (ci := 0) rfl rfl rfl (gs_nil hz) rfl hl.1 rfl (Nat.le_of_ble_eq_true rfl) dX0_greatestGap_15 ⟨Nat.le_of_ble_eq_true rfl, Nat.le_of_ble_eq_true rfl⟩ (fun res u9 H locs hp9 hz => ?_)
      replace hz := gs_unnil hz
      rw [hp9.1] at hz
      refine gs_eq (y := nI (hs_gl S k)) (hp9.2) ?_
      clear hp9
      refine va_mmax C0.1.1 C0.1.2.1 (by rw [C0.1.2.2.1]; exact hl.1.symm) C0.1.2.2.2.1 (C0.1.2.2.2.2 (.methodLink RX0 153 Lib.Math.max.name) (by decide +kernel)) (C0.1.2.2.2.2 (.static Lib.Math.max.name) (by decide +kernel)) (C0.1.2.2.2.2 (.initialized "java/lang/Math") (by decide +kernel)) (C0.1.2.2.2.2 (.code Lib.Math.max.name Lib.Math.max.code 2 (some .int)) (List.mem_of_getElem? (i := 5) rfl)) (Nat.le_of_ble_eq_true rfl) (Nat.le_of_ble_eq_true rfl) (Nat.le_of_ble_eq_true rfl) (Nat.le_of_ble_eq_true rfl) dX0_greatestGap_18 ?_
      refine gs_eq (y := nI (hs_mx S (k + 1))) (hs_mx_st (by omega) (by omega)) ?_
      refine lv_istore_n (lv' := [(1, .int (nI (hs_mx S (k + 1)))), (0, .ref (q 0)), (2, .int (nI k))]) C0.1.1 C0.1.2.1 dX0_greatestGap_21 rfl hl (by decide) rfl (fun ls hl => ?_)
      refine lv_iinc (v := nI (k + 1)) (lv' := [(2, .int (nI (k + 1))), (1, .int (nI (hs_mx S (k + 1)))), (0, .ref (q 0))]) C0.1.1 C0.1.2.1 dX0_greatestGap_22 hl (k := 2) rfl (nI_1 k) (by decide) rfl (fun ls hl => ?_)
      refine lv_goto (tgt := 4) C0.1.1 C0.1.2.1 dX0_greatestGap_25 (by decide) ?_
      have hl : lv_has ls 3 [(0, .ref (q 0)), (1, .int (nI (hs_mx S (k + 1)))), (2, .int (nI (k + 1)))] := lv_sub hl [2, 1, 0] rfl
      exact ih (d - 1) (by omega) (k + 1) ls _ _ hz (by omega) hl
set_option maxHeartbeats 4000000 in
set_option maxRecDepth 100000 in
/-- countGaps -/
theorem k_countGaps (l : Launch) (G : gs_G) (q : Nat → Nat) (r : xr) (S : hs_S) (hS : rx S r) (hJ : hs_J S) : gm_i l yX0_countGaps wsX0_countGaps (gm_rm 4 0 0) G (xw G q) r [.ref (q 0)] (fun res u => u = r ∧ res = nI (hs_ct S ((hs_R S).length + 1))) 0 0 := by
  refine gm_i.of (cc := cX0_countGaps) (nL := 3) (ret := (some .int)) (by decide +kernel) rfl (Nat.le_of_ble_eq_true rfl) ?_
  intro p e s m args below meth c ls C0 hz hl
  have hin : ∀ w ∈ wsX00, w ∈ wsX0_countGaps := by decide +kernel
  have l_nb : Cond.fieldLink RX0 38 "HandleHeap" "blocks" "I" ∈ wsX0_countGaps := by decide +kernel
  have hl : lv_has ls 3 [(0, .ref (q 0))] := hl
  have hlen := hJ.len
  refine lv_iconst (v := nI 0) C0.1.1 C0.1.2.1 dX0_countGaps_0 (by decide) ?_
  refine lv_istore_n (lv' := [(1, .int (nI 0)), (0, .ref (q 0))]) C0.1.1 C0.1.2.1 dX0_countGaps_1 rfl hl (by decide) rfl (fun ls hl => ?_)
  refine lv_iconst (v := nI 0) C0.1.1 C0.1.2.1 dX0_countGaps_2 (by decide) ?_
  refine lv_istore_n (lv' := [(2, .int (nI 0)), (1, .int (nI 0)), (0, .ref (q 0))]) C0.1.1 C0.1.2.1 dX0_countGaps_3 rfl hl (by decide) rfl (fun ls hl => ?_)
  have hl : lv_has ls 3 [(0, .ref (q 0)), (1, .int (nI 0)), (2, .int (nI 0))] := lv_sub hl [2, 1, 0] rfl
  refine (?loop : ∀ (d k : Nat) (ls : Array Slot) (H : Heap) (locs : List Loc), gs_Z G (xw G q r) _ s H locs → k + d = (hs_R S).length + 1 → lv_has ls 3 [(0, .ref (q 0)), (1, .int (nI (hs_ct S k))), (2, .int (nI k))] → W p l e _ s m args below meth c H locs 0 0 _ (F0 m 4 ls [])) _ 0 ls _ _ hz (Nat.zero_add _) hl
  intro d
  induction d using Nat.strongRecOn with
  | _ d ih =>
    intro k ls H locs hz hd hl
    refine lv_iload_n C0.1.1 C0.1.2.1 dX0_countGaps_4 rfl (lv_at hl 2 rfl) ?_
    refine lv_aload_n C0.1.1 C0.1.2.1 dX0_countGaps_5 rfl (lv_at hl 0 rfl) ?_
    refine xg_nb C0 hin hz l_nb dX0_countGaps_6 ?_
    refine gs_eq (y := nI ((hs_R S).length)) (hS.2.2.2.1.1) ?_
    refine lv_icmp_gt (tgt := 29) C0.1.1 C0.1.2.1 dX0_countGaps_9 (by decide) (fun c1 => ?_) (fun c1 => ?_)
    · rw [nI_ltI (by omega) (by omega)] at c1
      obtain rfl : k = (hs_R S).length + 1 := by omega
      refine lv_iload_n C0.1.1 C0.1.2.1 dX0_countGaps_29 rfl (lv_at hl 1 rfl) ?_
      exact gs_reti r C0 hz (⟨rfl, rfl⟩) (Nat.le_of_ble_eq_true rfl) (Nat.le_of_ble_eq_true rfl) dX0_countGaps_30
    · rw [nI_ltI (by omega) (by omega)] at c1
      have hk1 : k ≤ (hs_R S).length := by omega
      have hg1 : hs_gl S k ≤ 1024 := Nat.le_trans (Nat.sub_le _ _) (hg_gele hJ.1 hk1)
      refine lv_aload_n C0.1.1 C0.1.2.1 dX0_countGaps_12 rfl (lv_at hl 0 rfl) ?_
      refine lv_iload_n C0.1.1 C0.1.2.1 dX0_countGaps_13 rfl (lv_at hl 2 rfl) ?_
      refine gs_callVi (w := xw G q) (wr := []) C0.1 (k_gapLength l G q r S hS hJ k hk1) (cwV 1 C0.1.2.2.2.2 gX0_countGaps_X0_gapLength rfl rfl rfl (by decide +kernel) ⟨Nat.le_of_ble_eq_true rfl, Nat.le_of_ble_eq_true rfl⟩) (ci := 0) rfl rfl rfl (gs_nil hz) rfl hl.1 rfl (Nat.le_of_ble_eq_true rfl) dX0_countGaps_14 ⟨Nat.le_of_ble_eq_true rfl, Nat.le_of_ble_eq_true rfl⟩ (fun res u9 H locs hp9 hz => ?_)
      replace hz := gs_unnil hz
      rw [hp9.1] at hz
      refine gs_eq (y := nI (hs_gl S k)) (hp9.2) ?_
      clear hp9
      refine lv_if_le (tgt := 23) C0.1.1 C0.1.2.1 dX0_countGaps_17 (by decide) (fun c2 => ?_) (fun c2 => ?_)
      · rw [n0_le (by omega)] at c2
        have hc : hs_ct S k = hs_ct S (k + 1) := by rw [hs_ct, if_neg (by omega)]
        rw [hc] at hl
        refine lv_iinc (v := nI (k + 1)) (lv' := [(2, .int (nI (k + 1))), (0, .ref (q 0)), (1, .int (nI (hs_ct S (k + 1))))]) C0.1.1 C0.1.2.1 dX0_countGaps_23 hl (k := 2) rfl (nI_1 k) (by decide) rfl (fun ls hl => ?_)
        refine lv_goto (tgt := 4) C0.1.1 C0.1.2.1 dX0_countGaps_26 (by decide) ?_
        have hl : lv_has ls 3 [(0, .ref (q 0)), (1, .int (nI (hs_ct S (k + 1)))), (2, .int (nI (k + 1)))] := lv_sub hl [1, 2, 0] rfl
        exact ih (d - 1) (by omega) (k + 1) ls _ _ hz (by omega) hl
      · rw [n0_le (by omega)] at c2
        have hc : hs_ct S k + 1 = hs_ct S (k + 1) := by rw [hs_ct, if_pos (by omega)]
        refine lv_iinc (v := nI ((hs_ct S k) + 1)) (lv' := [(1, .int (nI ((hs_ct S k) + 1))), (0, .ref (q 0)), (2, .int (nI k))]) C0.1.1 C0.1.2.1 dX0_countGaps_20 hl (k := 1) rfl (nI_1 (hs_ct S k)) (by decide) rfl (fun ls hl => ?_)
        refine lv_iinc (v := nI (k + 1)) (lv' := [(2, .int (nI (k + 1))), (1, .int (nI ((hs_ct S k) + 1))), (0, .ref (q 0))]) C0.1.1 C0.1.2.1 dX0_countGaps_23 hl (k := 2) rfl (nI_1 k) (by decide) rfl (fun ls hl => ?_)
        refine lv_goto (tgt := 4) C0.1.1 C0.1.2.1 dX0_countGaps_26 (by decide) ?_
        rw [hc] at hl
        have hl : lv_has ls 3 [(0, .ref (q 0)), (1, .int (nI (hs_ct S (k + 1)))), (2, .int (nI (k + 1)))] := lv_sub hl [2, 1, 0] rfl
        exact ih (d - 1) (by omega) (k + 1) ls _ _ hz (by omega) hl
set_option maxHeartbeats 4000000 in
set_option maxRecDepth 100000 in
/-- freeBytes -/
theorem k_freeBytes (l : Launch) (G : gs_G) (q : Nat → Nat) (r : xr) (S : hs_S) (hS : rx S r) (hJ : hs_J S) : gm_i l yX0_freeBytes wsX0_freeBytes (gm_rm 4 0 0) G (xw G q) r [.ref (q 0)] (fun res u => u = r ∧ res = nI (hs_sm S ((hs_R S).length + 1))) 0 0 := by
  refine gm_i.of (cc := cX0_freeBytes) (nL := 3) (ret := (some .int)) (by decide +kernel) rfl (Nat.le_of_ble_eq_true rfl) ?_
  intro p e s m args below meth c ls C0 hz hl
  have hin : ∀ w ∈ wsX00, w ∈ wsX0_freeBytes := by decide +kernel
  have l_nb : Cond.fieldLink RX0 38 "HandleHeap" "blocks" "I" ∈ wsX0_freeBytes := by decide +kernel
  have hl : lv_has ls 3 [(0, .ref (q 0))] := hl
  have hlen := hJ.len
  refine lv_iconst (v := nI 0) C0.1.1 C0.1.2.1 dX0_freeBytes_0 (by decide) ?_
  refine lv_istore_n (lv' := [(1, .int (nI 0)), (0, .ref (q 0))]) C0.1.1 C0.1.2.1 dX0_freeBytes_1 rfl hl (by decide) rfl (fun ls hl => ?_)
  refine lv_iconst (v := nI 0) C0.1.1 C0.1.2.1 dX0_freeBytes_2 (by decide) ?_
  refine lv_istore_n (lv' := [(2, .int (nI 0)), (1, .int (nI 0)), (0, .ref (q 0))]) C0.1.1 C0.1.2.1 dX0_freeBytes_3 rfl hl (by decide) rfl (fun ls hl => ?_)
  have hl : lv_has ls 3 [(0, .ref (q 0)), (1, .int (nI 0)), (2, .int (nI 0))] := lv_sub hl [2, 1, 0] rfl
  refine (?loop : ∀ (d k : Nat) (ls : Array Slot) (H : Heap) (locs : List Loc), gs_Z G (xw G q r) _ s H locs → k + d = (hs_R S).length + 1 → lv_has ls 3 [(0, .ref (q 0)), (1, .int (nI (hs_sm S k))), (2, .int (nI k))] → W p l e _ s m args below meth c H locs 0 0 _ (F0 m 4 ls [])) _ 0 ls _ _ hz (Nat.zero_add _) hl
  intro d
  induction d using Nat.strongRecOn with
  | _ d ih =>
    intro k ls H locs hz hd hl
    refine lv_iload_n C0.1.1 C0.1.2.1 dX0_freeBytes_4 rfl (lv_at hl 2 rfl) ?_
    refine lv_aload_n C0.1.1 C0.1.2.1 dX0_freeBytes_5 rfl (lv_at hl 0 rfl) ?_
    refine xg_nb C0 hin hz l_nb dX0_freeBytes_6 ?_
    refine gs_eq (y := nI ((hs_R S).length)) (hS.2.2.2.1.1) ?_
    refine lv_icmp_gt (tgt := 26) C0.1.1 C0.1.2.1 dX0_freeBytes_9 (by decide) (fun c1 => ?_) (fun c1 => ?_)
    · rw [nI_ltI (by omega) (by omega)] at c1
      obtain rfl : k = (hs_R S).length + 1 := by omega
      refine lv_iload_n C0.1.1 C0.1.2.1 dX0_freeBytes_26 rfl (lv_at hl 1 rfl) ?_
      exact gs_reti r C0 hz (⟨rfl, rfl⟩) (Nat.le_of_ble_eq_true rfl) (Nat.le_of_ble_eq_true rfl) dX0_freeBytes_27
    · rw [nI_ltI (by omega) (by omega)] at c1
      have hk1 : k ≤ (hs_R S).length := by omega
      refine lv_iload_n C0.1.1 C0.1.2.1 dX0_freeBytes_12 rfl (lv_at hl 1 rfl) ?_
      refine lv_aload_n C0.1.1 C0.1.2.1 dX0_freeBytes_13 rfl (lv_at hl 0 rfl) ?_
      refine lv_iload_n C0.1.1 C0.1.2.1 dX0_freeBytes_14 rfl (lv_at hl 2 rfl) ?_
      refine gs_callVi (w := xw G q) (wr := []) C0.1 (k_gapLength l G q r S hS hJ k hk1) (cwV 1 C0.1.2.2.2.2 gX0_freeBytes_X0_gapLength rfl rfl rfl (by decide +kernel) ⟨Nat.le_of_ble_eq_true rfl, Nat.le_of_ble_eq_true rfl⟩) (ci := 0) rfl rfl rfl (gs_nil hz) rfl hl.1 rfl (Nat.le_of_ble_eq_true rfl) dX0_freeBytes_15 ⟨Nat.le_of_ble_eq_true rfl, Nat.le_of_ble_eq_true rfl⟩ (fun res u9 H locs hp9 hz => ?_)
      replace hz := gs_unnil hz
      rw [hp9.1] at hz
      refine gs_eq (y := nI (hs_gl S k)) (hp9.2) ?_
      clear hp9
      refine lv_iadd C0.1.1 C0.1.2.1 dX0_freeBytes_18 ?_
      refine gs_eq (nI_add (hs_sm S k) (hs_gl S k)) ?_
      refine lv_istore_n (lv' := [(1, .int (nI ((hs_sm S k) + (hs_gl S k)))), (0, .ref (q 0)), (2, .int (nI k))]) C0.1.1 C0.1.2.1 dX0_freeBytes_19 rfl hl (by decide) rfl (fun ls hl => ?_)
      refine lv_iinc (v := nI (k + 1)) (lv' := [(2, .int (nI (k + 1))), (1, .int (nI ((hs_sm S k) + (hs_gl S k)))), (0, .ref (q 0))]) C0.1.1 C0.1.2.1 dX0_freeBytes_20 hl (k := 2) rfl (nI_1 k) (by decide) rfl (fun ls hl => ?_)
      refine lv_goto (tgt := 4) C0.1.1 C0.1.2.1 dX0_freeBytes_23 (by decide) ?_
      have hl : lv_has ls 3 [(0, .ref (q 0)), (1, .int (nI ((hs_sm S k) + (hs_gl S k)))), (2, .int (nI (k + 1)))] := lv_sub hl [2, 1, 0] rfl
      exact ih (d - 1) (by omega) (k + 1) ls _ _ hz (by omega) hl
end
section
/-! HandleHeap: the row, one block -/
set_option maxHeartbeats 4000000 in
set_option maxRecDepth 100000 in
/-- leaveRow -/
theorem k_leaveRow (l : Launch) (G : gs_G) (q : Nat → Nat) (r : xr) (R : List Nat) (hR : x_nb r = nI R.length ∧ ∀ k, k < R.length → x_rw r k = nI (hg_at R k)) (hlen : R.length ≤ 48) (hR2 : ∀ x ∈ R, x < 48) (h : Nat) (hh : h < 48) : gm_v l yX0_leaveRow wsX0_leaveRow (gm_rm 1 0 0) G (xw G q) r [.ref (q 0), .int (nI h)] (fun u => ∃ w, u = xs_nb (xs_rw r w) (nI (hg_out R h).length) ∧ ∀ k, k < (hg_out R h).length → w k = nI (hg_at (hg_out R h) k)) 0 0 := by
  refine gm_v.of (cc := cX0_leaveRow) (nL := 4) (ret := none) (by decide +kernel) rfl (Nat.le_of_ble_eq_true rfl) ?_
  intro p e s m args below meth c ls C0 hz hl
  have hin : ∀ w ∈ wsX00, w ∈ wsX0_leaveRow := by decide +kernel
  have l_nb : Cond.fieldLink RX0 38 "HandleHeap" "blocks" "I" ∈ wsX0_leaveRow := by decide +kernel
  have l_rw : Cond.fieldLink RX0 35 "HandleHeap" "row" "[I" ∈ wsX0_leaveRow := by decide +kernel
  have hl : lv_has ls 4 [(0, .ref (q 0)), (1, .int (nI h))] := hl
  refine lv_iconst (v := nI 0) C0.1.1 C0.1.2.1 dX0_leaveRow_0 (by decide) ?_
  refine lv_istore_n (lv' := [(2, .int (nI 0)), (0, .ref (q 0)), (1, .int (nI h))]) C0.1.1 C0.1.2.1 dX0_leaveRow_1 rfl hl (by decide) rfl (fun ls hl => ?_)
  refine lv_iconst (v := nI 0) C0.1.1 C0.1.2.1 dX0_leaveRow_2 (by decide) ?_
  refine lv_istore_n (lv' := [(3, .int (nI 0)), (2, .int (nI 0)), (0, .ref (q 0)), (1, .int (nI h))]) C0.1.1 C0.1.2.1 dX0_leaveRow_3 rfl hl (by decide) rfl (fun ls hl => ?_)
  have hl : lv_has ls 4 [(0, .ref (q 0)), (1, .int (nI h)), (2, .int (nI 0)), (3, .int (nI 0))] := lv_sub hl [2, 3, 1, 0] rfl
  refine (?loop : ∀ (d k : Nat) (w : Nat → Int32) (ls : Array Slot) (H : Heap) (locs : List Loc), gs_Z G (xw G q (xs_rw r w)) _ s H locs → k + d = R.length → (∀ j, j < (hg_out (R.take k) h).length → w j = nI (hg_at (hg_out (R.take k) h) j)) → (∀ j, k ≤ j → j < R.length → w j = nI (hg_at R j)) → lv_has ls 4 [(0, .ref (q 0)), (1, .int (nI h)), (2, .int (nI ((hg_out (R.take k) h).length))), (3, .int (nI k))] → W p l e _ s m args below meth c H locs 0 0 _ (F0 m 4 ls [])) _ 0 (x_rw r) ls _ _ hz (Nat.zero_add _) (fun j hj => absurd hj (Nat.not_lt_zero _)) (fun j _ hj => hR.2 j hj) hl
  intro d
  induction d using Nat.strongRecOn with
  | _ d ih =>
    intro k w ls H locs hz hd i1 i2 hl
    have hko : (hg_out (R.take k) h).length ≤ k := ho_len
    refine lv_iload_n C0.1.1 C0.1.2.1 dX0_leaveRow_4 rfl (lv_at hl 3 rfl) ?_
    refine lv_aload_n C0.1.1 C0.1.2.1 dX0_leaveRow_5 rfl (lv_at hl 0 rfl) ?_
    refine xg_nb C0 hin hz l_nb dX0_leaveRow_6 ?_
    refine gs_eq (y := nI (R.length)) (hR.1) ?_
    refine lv_icmp_ge (tgt := 43) C0.1.1 C0.1.2.1 dX0_leaveRow_9 (by decide) (fun c1 => ?_) (fun c1 => ?_)
    · rw [nI_leI (by omega) (by omega)] at c1
      obtain rfl : k = R.length := by omega
      rw [List.take_length] at i1 hl
      refine lv_aload_n C0.1.1 C0.1.2.1 dX0_leaveRow_43 rfl (lv_at hl 0 rfl) ?_
      refine lv_iload_n C0.1.1 C0.1.2.1 dX0_leaveRow_44 rfl (lv_at hl 2 rfl) ?_
      refine xp_nb C0 hin hz l_nb dX0_leaveRow_45 (fun H locs hz => ?_)
      obtain ⟨r1, er1⟩ : ∃ z, z = xs_nb (xs_rw r w) (nI ((hg_out R h).length)) := ⟨_, rfl⟩
      rw [← er1] at hz
      exact gs_retv r1 C0 hz (⟨w, er1, i1⟩) (Nat.le_of_ble_eq_true rfl) (Nat.le_of_ble_eq_true rfl) dX0_leaveRow_48
    · rw [nI_leI (by omega) (by omega)] at c1
      have hk1 : k < R.length := by omega
      have hat : hg_at R k < 48 := hR2 _ (hg_at_mem hk1)
      refine lv_aload_n C0.1.1 C0.1.2.1 dX0_leaveRow_12 rfl (lv_at hl 0 rfl) ?_
      refine xg_rw C0 hin hz l_rw dX0_leaveRow_13 ?_
      refine lv_iload_n C0.1.1 C0.1.2.1 dX0_leaveRow_16 rfl (lv_at hl 3 rfl) ?_
      refine xl_rw C0 hz k (by omega) rfl dX0_leaveRow_17 ?_
      refine gs_eq (y := nI (hg_at R k)) (i2 k (Nat.le_refl _) hk1) ?_
      refine lv_iload_n C0.1.1 C0.1.2.1 dX0_leaveRow_18 rfl (lv_at hl 1 rfl) ?_
      refine lv_icmp_eq (tgt := 37) C0.1.1 C0.1.2.1 dX0_leaveRow_19 (by decide) (fun c2 => ?_) (fun c2 => ?_)
      · rw [nI_eq (by omega) (by omega)] at c2
        have e1 : hg_out (R.take (k + 1)) h = hg_out (R.take k) h := by rw [ho_step hk1, if_pos c2]
        refine lv_iinc (v := nI (k + 1)) (lv' := [(3, .int (nI (k + 1))), (0, .ref (q 0)), (1, .int (nI h)), (2, .int (nI ((hg_out (R.take k) h).length)))]) C0.1.1 C0.1.2.1 dX0_leaveRow_37 hl (k := 3) rfl (nI_1 k) (by decide) rfl (fun ls hl => ?_)
        refine lv_goto (tgt := 4) C0.1.1 C0.1.2.1 dX0_leaveRow_40 (by decide) ?_
        have hl : lv_has ls 4 [(0, .ref (q 0)), (1, .int (nI h)), (2, .int (nI ((hg_out (R.take k) h).length))), (3, .int (nI (k + 1)))] := lv_sub hl [1, 2, 3, 0] rfl
        exact ih (d - 1) (by omega) (k + 1) w ls _ _ hz (by omega) (by rw [e1]; exact i1) (fun j hj => i2 j (by omega)) (by rw [e1]; exact hl)
      · rw [nI_eq (by omega) (by omega)] at c2
        have e1 : hg_out (R.take (k + 1)) h = hg_out (R.take k) h ++ [hg_at R k] := by rw [ho_step hk1, if_neg c2]
        refine lv_aload_n C0.1.1 C0.1.2.1 dX0_leaveRow_22 rfl (lv_at hl 0 rfl) ?_
        refine xg_rw C0 hin hz l_rw dX0_leaveRow_23 ?_
        refine lv_iload_n C0.1.1 C0.1.2.1 dX0_leaveRow_26 rfl (lv_at hl 2 rfl) ?_
        refine lv_aload_n C0.1.1 C0.1.2.1 dX0_leaveRow_27 rfl (lv_at hl 0 rfl) ?_
        refine xg_rw C0 hin hz l_rw dX0_leaveRow_28 ?_
        refine lv_iload_n C0.1.1 C0.1.2.1 dX0_leaveRow_31 rfl (lv_at hl 3 rfl) ?_
        refine xl_rw C0 hz k (by omega) rfl dX0_leaveRow_32 ?_
        refine gs_eq (y := nI (hg_at R k)) (i2 k (Nat.le_refl _) hk1) ?_
        refine xt_rw C0 hz ((hg_out (R.take k) h).length) (by omega) rfl dX0_leaveRow_33 (fun H locs hz => ?_)
        have hz : gs_Z G (xw G q (xs_rw r (upd w (hg_out (R.take k) h).length (nI (hg_at R k))))) _ s H locs := hz
        refine lv_iinc (v := nI (((hg_out (R.take k) h).length) + 1)) (lv' := [(2, .int (nI (((hg_out (R.take k) h).length) + 1))), (0, .ref (q 0)), (1, .int (nI h)), (3, .int (nI k))]) C0.1.1 C0.1.2.1 dX0_leaveRow_34 hl (k := 2) rfl (nI_1 ((hg_out (R.take k) h).length)) (by decide) rfl (fun ls hl => ?_)
        refine lv_iinc (v := nI (k + 1)) (lv' := [(3, .int (nI (k + 1))), (2, .int (nI (((hg_out (R.take k) h).length) + 1))), (0, .ref (q 0)), (1, .int (nI h))]) C0.1.1 C0.1.2.1 dX0_leaveRow_37 hl (k := 3) rfl (nI_1 k) (by decide) rfl (fun ls hl => ?_)
        refine lv_goto (tgt := 4) C0.1.1 C0.1.2.1 dX0_leaveRow_40 (by decide) ?_
        have hl : lv_has ls 4 [(0, .ref (q 0)), (1, .int (nI h)), (2, .int (nI (((hg_out (R.take k) h).length) + 1))), (3, .int (nI (k + 1)))] := lv_sub hl [2, 3, 1, 0] rfl
        have e2 : (hg_out (R.take (k + 1)) h).length = (hg_out (R.take k) h).length + 1 := by rw [e1, List.length_append]; rfl
        exact ih (d - 1) (by omega) (k + 1) _ ls _ _ hz (by omega) (by rw [e1]; exact ho_put i1) (fun j hj hj2 => by rw [pk_un (by omega)]; exact i2 j (by omega) hj2) (by rw [e2]; exact hl)
set_option maxHeartbeats 4000000 in
set_option maxRecDepth 100000 in
/-- enterRow -/
theorem k_enterRow (l : Launch) (G : gs_G) (q : Nat → Nat) (r : xr) (R : List Nat) (b : Nat → Nat) (hR : x_nb r = nI R.length ∧ ∀ k, k < R.length → x_rw r k = nI (hg_at R k)) (hlen : R.length ≤ 47) (hR2 : ∀ x ∈ R, x < 48 ∧ x_bg r x = nI (b x) ∧ b x ≤ 1024) (hs : ∀ i j, i < j → j < R.length → b (hg_at R i) ≤ b (hg_at R j)) (h : Nat) (hh : h < 48) (hb : x_bg r h = nI (b h) ∧ b h ≤ 1024) : gm_v l yX0_enterRow wsX0_enterRow (gm_rm 1 0 0) G (xw G q) r [.ref (q 0), .int (nI h)] (fun u => ∃ w, u = xs_nb (xs_rw r w) (nI (R.length + 1)) ∧ ∀ k, k < R.length + 1 → w k = nI (hg_at (hg_ins b h R) k)) 0 0 := by
  refine gm_v.of (cc := cX0_enterRow) (nL := 3) (ret := none) (by decide +kernel) rfl (Nat.le_of_ble_eq_true rfl) ?_
  intro p e s m args below meth c ls C0 hz hl
  have hin : ∀ w ∈ wsX00, w ∈ wsX0_enterRow := by decide +kernel
  have l_nb : Cond.fieldLink RX0 38 "HandleHeap" "blocks" "I" ∈ wsX0_enterRow := by decide +kernel
  have l_bg : Cond.fieldLink RX0 13 "HandleHeap" "begin" "[I" ∈ wsX0_enterRow := by decide +kernel
  have l_rw : Cond.fieldLink RX0 35 "HandleHeap" "row" "[I" ∈ wsX0_enterRow := by decide +kernel
  have hl : lv_has ls 3 [(0, .ref (q 0)), (1, .int (nI h))] := hl
  refine lv_aload_n C0.1.1 C0.1.2.1 dX0_enterRow_0 rfl (lv_at hl 0 rfl) ?_
  refine xg_nb C0 hin hz l_nb dX0_enterRow_1 ?_
  refine gs_eq (y := nI (R.length)) (hR.1) ?_
  refine lv_istore_n (lv' := [(2, .int (nI (R.length))), (0, .ref (q 0)), (1, .int (nI h))]) C0.1.1 C0.1.2.1 dX0_enterRow_4 rfl hl (by decide) rfl (fun ls hl => ?_)
  have hl : lv_has ls 3 [(0, .ref (q 0)), (1, .int (nI h)), (2, .int (nI (R.length)))] := lv_sub hl [1, 2, 0] rfl
  refine (?loop : ∀ (k : Nat) (w : Nat → Int32) (ls : Array Slot) (H : Heap) (locs : List Loc), gs_Z G (xw G q (xs_rw r w)) _ s H locs → k ≤ R.length → (∀ j, j < k → w j = nI (hg_at R j)) → (∀ j, k ≤ j → j < R.length → w (j + 1) = nI (hg_at R j) ∧ b h < b (hg_at R j)) → lv_has ls 3 [(0, .ref (q 0)), (1, .int (nI h)), (2, .int (nI k))] → W p l e _ s m args below meth c H locs 0 0 _ (F0 m 5 ls [])) R.length (x_rw r) ls _ _ hz (Nat.le_refl _) (fun j hj => hR.2 j hj) (fun j h1 h2 => absurd h2 (Nat.not_lt.mpr h1)) hl
  intro k
  induction k with
  | zero =>
    intro w ls H locs hz hk i1 i2 hl
    refine lv_iload_n C0.1.1 C0.1.2.1 dX0_enterRow_5 rfl (lv_at hl 2 rfl) ?_
    refine lv_if_le (tgt := 51) C0.1.1 C0.1.2.1 dX0_enterRow_6 (by decide) (fun c1 => ?_) (fun c1 => ?_)
    · rw [n0_le (by omega)] at c1
      refine lv_aload_n C0.1.1 C0.1.2.1 dX0_enterRow_51 rfl (lv_at hl 0 rfl) ?_
      refine xg_rw C0 hin hz l_rw dX0_enterRow_52 ?_
      refine lv_iload_n C0.1.1 C0.1.2.1 dX0_enterRow_55 rfl (lv_at hl 2 rfl) ?_
      refine lv_iload_n C0.1.1 C0.1.2.1 dX0_enterRow_56 rfl (lv_at hl 1 rfl) ?_
      refine xt_rw C0 hz 0 (by omega) rfl dX0_enterRow_57 (fun H locs hz => ?_)
      have hz : gs_Z G (xw G q (xs_rw r (upd w 0 (nI h)))) _ s H locs := hz
      refine lv_aload_n C0.1.1 C0.1.2.1 dX0_enterRow_58 rfl (lv_at hl 0 rfl) ?_
      refine lv_dup C0.1.1 C0.1.2.1 dX0_enterRow_59 rfl ?_
      refine xg_nb C0 hin hz l_nb dX0_enterRow_60 ?_
      refine gs_eq (y := nI (R.length)) (hR.1) ?_
      refine lv_iconst (v := nI 1) C0.1.1 C0.1.2.1 dX0_enterRow_63 (by decide) ?_
      refine lv_iadd C0.1.1 C0.1.2.1 dX0_enterRow_64 ?_
      refine gs_eq (nI_add (R.length) 1) ?_
      refine xp_nb C0 hin hz l_nb dX0_enterRow_65 (fun H locs hz => ?_)
      exact gs_retv (xs_nb (xs_rw r (upd w 0 (nI h))) (nI ((R.length) + 1))) C0 hz (⟨_, rfl, en_fin hs hk i1 i2 (Or.inl rfl)⟩) (Nat.le_of_ble_eq_true rfl) (Nat.le_of_ble_eq_true rfl) dX0_enterRow_68
    · rw [n0_le (by omega)] at c1
      exact absurd rfl c1
  | succ k ih =>
    intro w ls H locs hz hk i1 i2 hl
    refine lv_iload_n C0.1.1 C0.1.2.1 dX0_enterRow_5 rfl (lv_at hl 2 rfl) ?_
    refine lv_if_le (tgt := 51) C0.1.1 C0.1.2.1 dX0_enterRow_6 (by decide) (fun c1 => ?_) (fun c1 => ?_)
    · rw [n0_le (by omega)] at c1
      exact absurd c1 (Nat.succ_ne_zero k)
    · rw [n0_le (by omega)] at c1
      have hk1 : k < R.length := by omega
      have hat := hR2 _ (hg_at_mem hk1)
      have hbk : b (hg_at R k) ≤ 1024 := hat.2.2
      have hbh : b h ≤ 1024 := hb.2
      refine lv_aload_n C0.1.1 C0.1.2.1 dX0_enterRow_9 rfl (lv_at hl 0 rfl) ?_
      refine xg_bg C0 hin hz l_bg dX0_enterRow_10 ?_
      refine lv_aload_n C0.1.1 C0.1.2.1 dX0_enterRow_13 rfl (lv_at hl 0 rfl) ?_
      refine xg_rw C0 hin hz l_rw dX0_enterRow_14 ?_
      refine lv_iload_n C0.1.1 C0.1.2.1 dX0_enterRow_17 rfl (lv_at hl 2 rfl) ?_
      refine lv_iconst (v := nI 1) C0.1.1 C0.1.2.1 dX0_enterRow_18 (by decide) ?_
      refine lv_isub C0.1.1 C0.1.2.1 dX0_enterRow_19 ?_
      refine gs_eq (pk_sub (by omega)) ?_
      refine xl_rw C0 hz k (by omega) (rfl) dX0_enterRow_20 ?_
      refine gs_eq (y := nI (hg_at R k)) (i1 k (Nat.lt_succ_self k)) ?_
      refine xl_bg C0 hz (hg_at R k) (hat.1) rfl dX0_enterRow_21 ?_
      refine gs_eq (y := nI (b (hg_at R k))) (hat.2.1) ?_
      refine lv_aload_n C0.1.1 C0.1.2.1 dX0_enterRow_22 rfl (lv_at hl 0 rfl) ?_
      refine xg_bg C0 hin hz l_bg dX0_enterRow_23 ?_
      refine lv_iload_n C0.1.1 C0.1.2.1 dX0_enterRow_26 rfl (lv_at hl 1 rfl) ?_
      refine xl_bg C0 hz h (by omega) rfl dX0_enterRow_27 ?_
      refine gs_eq (y := nI (b h)) (hb.1) ?_
      refine lv_icmp_le (tgt := 51) C0.1.1 C0.1.2.1 dX0_enterRow_28 (by decide) (fun c2 => ?_) (fun c2 => ?_)
      · rw [nI_leI (by omega) (by omega)] at c2
        refine lv_aload_n C0.1.1 C0.1.2.1 dX0_enterRow_51 rfl (lv_at hl 0 rfl) ?_
        refine xg_rw C0 hin hz l_rw dX0_enterRow_52 ?_
        refine lv_iload_n C0.1.1 C0.1.2.1 dX0_enterRow_55 rfl (lv_at hl 2 rfl) ?_
        refine lv_iload_n C0.1.1 C0.1.2.1 dX0_enterRow_56 rfl (lv_at hl 1 rfl) ?_
        refine xt_rw C0 hz (k + 1) (by omega) rfl dX0_enterRow_57 (fun H locs hz => ?_)
        have hz : gs_Z G (xw G q (xs_rw r (upd w (k + 1) (nI h)))) _ s H locs := hz
        refine lv_aload_n C0.1.1 C0.1.2.1 dX0_enterRow_58 rfl (lv_at hl 0 rfl) ?_
        refine lv_dup C0.1.1 C0.1.2.1 dX0_enterRow_59 rfl ?_
        refine xg_nb C0 hin hz l_nb dX0_enterRow_60 ?_
        refine gs_eq (y := nI (R.length)) (hR.1) ?_
        refine lv_iconst (v := nI 1) C0.1.1 C0.1.2.1 dX0_enterRow_63 (by decide) ?_
        refine lv_iadd C0.1.1 C0.1.2.1 dX0_enterRow_64 ?_
        refine gs_eq (nI_add (R.length) 1) ?_
        refine xp_nb C0 hin hz l_nb dX0_enterRow_65 (fun H locs hz => ?_)
        exact gs_retv (xs_nb (xs_rw r (upd w (k + 1) (nI h))) (nI ((R.length) + 1))) C0 hz (⟨_, rfl, en_fin hs hk i1 i2 (Or.inr c2)⟩) (Nat.le_of_ble_eq_true rfl) (Nat.le_of_ble_eq_true rfl) dX0_enterRow_68
      · rw [nI_leI (by omega) (by omega)] at c2
        refine lv_aload_n C0.1.1 C0.1.2.1 dX0_enterRow_31 rfl (lv_at hl 0 rfl) ?_
        refine xg_rw C0 hin hz l_rw dX0_enterRow_32 ?_
        refine lv_iload_n C0.1.1 C0.1.2.1 dX0_enterRow_35 rfl (lv_at hl 2 rfl) ?_
        refine lv_aload_n C0.1.1 C0.1.2.1 dX0_enterRow_36 rfl (lv_at hl 0 rfl) ?_
        refine xg_rw C0 hin hz l_rw dX0_enterRow_37 ?_
        refine lv_iload_n C0.1.1 C0.1.2.1 dX0_enterRow_40 rfl (lv_at hl 2 rfl) ?_
        refine lv_iconst (v := nI 1) C0.1.1 C0.1.2.1 dX0_enterRow_41 (by decide) ?_
        refine lv_isub C0.1.1 C0.1.2.1 dX0_enterRow_42 ?_
        refine gs_eq (pk_sub (by omega)) ?_
        refine xl_rw C0 hz k (by omega) (rfl) dX0_enterRow_43 ?_
        refine gs_eq (y := nI (hg_at R k)) (i1 k (Nat.lt_succ_self k)) ?_
        refine xt_rw C0 hz (k + 1) (by omega) rfl dX0_enterRow_44 (fun H locs hz => ?_)
        have hz : gs_Z G (xw G q (xs_rw r (upd w (k + 1) (nI (hg_at R k))))) _ s H locs := hz
        refine lv_iinc (v := nI k) (lv' := [(2, .int (nI k)), (0, .ref (q 0)), (1, .int (nI h))]) C0.1.1 C0.1.2.1 dX0_enterRow_45 hl (k := 2) rfl (pk_m1 k) (by decide) rfl (fun ls hl => ?_)
        refine lv_goto (tgt := 5) C0.1.1 C0.1.2.1 dX0_enterRow_48 (by decide) ?_
        have hl : lv_has ls 3 [(0, .ref (q 0)), (1, .int (nI h)), (2, .int (nI k))] := lv_sub hl [1, 2, 0] rfl
        refine ih _ ls _ _ hz (by omega) (fun j hj => by rw [pk_un (by omega)]; exact i1 j (by omega)) (fun j h1 h2 => ?_) hl
        by_cases e : j = k
        · subst e; exact ⟨pk_us, by omega⟩
        · rw [pk_un (by omega)]; exact i2 j (by omega) h2
set_option maxHeartbeats 4000000 in
set_option maxRecDepth 100000 in
/-- setLength -/
theorem k_setLength (l : Launch) (G : gs_G) (q : Nat → Nat) (r : xr) (h b n0 n : Nat) (hh : h < 48) (hb : x_bg r h = nI b) (hn0 : x_ln r h = nI n0) (h0 : b + n0 ≤ 1024) (h1 : b + n ≤ 1024) : gm_v l yX0_setLength wsX0_setLength (gm_rm 3 0 0) G (xw G q) r [.ref (q 0), .int (nI h), .int (nI n)] (fun u => u = xs_ln (xs_hp r (fun j => if b + n0 ≤ j ∧ j < b + n then 0 else x_hp r j)) (upd (x_ln r) h (nI n))) 0 0 := by
  refine gm_v.of (cc := cX0_setLength) (nL := 3) (ret := none) (by decide +kernel) rfl (Nat.le_of_ble_eq_true rfl) ?_
  intro p e s m args below meth c ls C0 hz hl
  have hin : ∀ w ∈ wsX00, w ∈ wsX0_setLength := by decide +kernel
  have l_ln : Cond.fieldLink RX0 22 "HandleHeap" "length" "[I" ∈ wsX0_setLength := by decide +kernel
  have l_hp : Cond.fieldLink RX0 9 "HandleHeap" "heap" "[I" ∈ wsX0_setLength := by decide +kernel
  have l_bg : Cond.fieldLink RX0 13 "HandleHeap" "begin" "[I" ∈ wsX0_setLength := by decide +kernel
  have hl : lv_has ls 3 [(0, .ref (q 0)), (1, .int (nI h)), (2, .int (nI n))] := hl
  refine lv_iload_n C0.1.1 C0.1.2.1 dX0_setLength_0 rfl (lv_at hl 2 rfl) ?_
  refine lv_aload_n C0.1.1 C0.1.2.1 dX0_setLength_1 rfl (lv_at hl 0 rfl) ?_
  refine xg_ln C0 hin hz l_ln dX0_setLength_2 ?_
  refine lv_iload_n C0.1.1 C0.1.2.1 dX0_setLength_5 rfl (lv_at hl 1 rfl) ?_
  refine xl_ln C0 hz h (by omega) rfl dX0_setLength_6 ?_
  refine gs_eq (y := nI n0) (hn0) ?_
  refine lv_icmp_le (tgt := 31) C0.1.1 C0.1.2.1 dX0_setLength_7 (by decide) (fun c1 => ?_) (fun c1 => ?_)
  · rw [nI_leI (by omega) (by omega)] at c1
    refine lv_aload_n C0.1.1 C0.1.2.1 dX0_setLength_31 rfl (lv_at hl 0 rfl) ?_
    refine xg_ln C0 hin hz l_ln dX0_setLength_32 ?_
    refine lv_iload_n C0.1.1 C0.1.2.1 dX0_setLength_35 rfl (lv_at hl 1 rfl) ?_
    refine lv_iload_n C0.1.1 C0.1.2.1 dX0_setLength_36 rfl (lv_at hl 2 rfl) ?_
    refine xt_ln C0 hz h (by omega) rfl dX0_setLength_37 (fun H locs hz => ?_)
    exact gs_retv (xs_ln r (upd (x_ln r) h (nI n))) C0 hz (by rw [← fl_no (by omega)]; rfl) (Nat.le_of_ble_eq_true rfl) (Nat.le_of_ble_eq_true rfl) dX0_setLength_38
  · rw [nI_leI (by omega) (by omega)] at c1
    refine lv_aload_n C0.1.1 C0.1.2.1 dX0_setLength_10 rfl (lv_at hl 0 rfl) ?_
    refine xg_hp C0 hin hz l_hp dX0_setLength_11 ?_
    refine lv_aload_n C0.1.1 C0.1.2.1 dX0_setLength_14 rfl (lv_at hl 0 rfl) ?_
    refine lv_iload_n C0.1.1 C0.1.2.1 dX0_setLength_15 rfl (lv_at hl 1 rfl) ?_
    refine gs_callVi (w := xw G q) (wr := []) C0.1 (k_endOf l G q r h hh) (cwV 1 C0.1.2.2.2.2 gX0_setLength_X0_endOf rfl rfl rfl (by decide +kernel) ⟨Nat.le_of_ble_eq_true rfl, Nat.le_of_ble_eq_true rfl⟩) (ci := 0) rfl rfl rfl (gs_nil hz) rfl hl.1 rfl (Nat.le_of_ble_eq_true rfl) dX0_setLength_16 ⟨Nat.le_of_ble_eq_true rfl, Nat.le_of_ble_eq_true rfl⟩ (fun res u9 H locs hp9 hz => ?_)
    replace hz := gs_unnil hz
    rw [hp9.1] at hz
    refine gs_eq (y := nI (b + n0)) (by rw [hp9.2, hb, hn0, nI_add]) ?_
    clear hp9
    refine lv_aload_n C0.1.1 C0.1.2.1 dX0_setLength_19 rfl (lv_at hl 0 rfl) ?_
    refine xg_bg C0 hin hz l_bg dX0_setLength_20 ?_
    refine lv_iload_n C0.1.1 C0.1.2.1 dX0_setLength_23 rfl (lv_at hl 1 rfl) ?_
    refine xl_bg C0 hz h (by omega) rfl dX0_setLength_24 ?_
    refine gs_eq (y := nI b) (hb) ?_
    refine lv_iload_n C0.1.1 C0.1.2.1 dX0_setLength_25 rfl (lv_at hl 2 rfl) ?_
    refine lv_iadd C0.1.1 C0.1.2.1 dX0_setLength_26 ?_
    refine gs_eq (nI_add b n) ?_
    refine lv_iconst (v := nI 0) C0.1.1 C0.1.2.1 dX0_setLength_27 (by decide) ?_
    refine gs_callSv (w := fun w : va_W => w) (wr := []) C0.1 (k_fillr l G (xw G q r) 1 (q 1) 1024 (x_hp r) rfl (b + n0) (b + n) (nI 0) (by omega) (by omega) (by decide)) (va_cwS 4 C0.1.2.2.2.2 gX0_setLength_J7_fill_fda19 rfl rfl rfl (by decide +kernel) ⟨Nat.le_of_ble_eq_true rfl, Nat.le_of_ble_eq_true rfl⟩) (gs_nil hz) rfl hl.1 rfl (Nat.le_of_ble_eq_true rfl) dX0_setLength_28 ⟨Nat.le_of_ble_eq_true rfl, Nat.le_of_ble_eq_true rfl⟩ (fun u H locs hp hz => ?_)
    replace hz := gs_unnil hz
    rw [hp, nI_0] at hz
    have hz : gs_Z G (xw G q (xs_hp r (fun j => if b + n0 ≤ j ∧ j < b + n then 0 else x_hp r j))) _ s H locs := hz
    refine lv_aload_n C0.1.1 C0.1.2.1 dX0_setLength_31 rfl (lv_at hl 0 rfl) ?_
    refine xg_ln C0 hin hz l_ln dX0_setLength_32 ?_
    refine lv_iload_n C0.1.1 C0.1.2.1 dX0_setLength_35 rfl (lv_at hl 1 rfl) ?_
    refine lv_iload_n C0.1.1 C0.1.2.1 dX0_setLength_36 rfl (lv_at hl 2 rfl) ?_
    refine xt_ln C0 hz h (by omega) rfl dX0_setLength_37 (fun H locs hz => ?_)
    exact gs_retv (xs_ln (xs_hp r (fun j => if b + n0 ≤ j ∧ j < b + n then 0 else x_hp r j)) (upd (x_ln (xs_hp r (fun j => if b + n0 ≤ j ∧ j < b + n then 0 else x_hp r j))) h (nI n))) C0 hz (rfl) (Nat.le_of_ble_eq_true rfl) (Nat.le_of_ble_eq_true rfl) dX0_setLength_38
set_option maxHeartbeats 4000000 in
set_option maxRecDepth 100000 in
/-- moveTo -/
theorem k_moveTo (l : Launch) (G : gs_G) (q : Nat → Nat) (r : xr) (h b n a : Nat) (hh : h < 48) (hb : x_bg r h = nI b) (hn : x_ln r h = nI n) (h0 : b + n ≤ 1024) (h1 : a + n ≤ 1024) : gm_v l yX0_moveTo wsX0_moveTo (gm_rm 2 0 0) G (xw G q) r [.ref (q 0), .int (nI h), .int (nI a)] (fun u => u = if a = b then r else xs_mv (xs_bg (xs_hp r (va_cpy (x_hp r) (x_hp r) b a n)) (upd (x_bg r) h (nI a))) (x_mv r + nI n)) 0 0 := by
  refine gm_v.of (cc := cX0_moveTo) (nL := 3) (ret := none) (by decide +kernel) rfl (Nat.le_of_ble_eq_true rfl) ?_
  intro p e s m args below meth c ls C0 hz hl
  have hin : ∀ w ∈ wsX00, w ∈ wsX0_moveTo := by decide +kernel
  have l_bg : Cond.fieldLink RX0 13 "HandleHeap" "begin" "[I" ∈ wsX0_moveTo := by decide +kernel
  have l_hp : Cond.fieldLink RX0 9 "HandleHeap" "heap" "[I" ∈ wsX0_moveTo := by decide +kernel
  have l_ln : Cond.fieldLink RX0 22 "HandleHeap" "length" "[I" ∈ wsX0_moveTo := by decide +kernel
  have l_mv : Cond.fieldLink RX0 42 "HandleHeap" "bytesMoved" "I" ∈ wsX0_moveTo := by decide +kernel
  have hl : lv_has ls 3 [(0, .ref (q 0)), (1, .int (nI h)), (2, .int (nI a))] := hl
  refine lv_iload_n C0.1.1 C0.1.2.1 dX0_moveTo_0 rfl (lv_at hl 2 rfl) ?_
  refine lv_aload_n C0.1.1 C0.1.2.1 dX0_moveTo_1 rfl (lv_at hl 0 rfl) ?_
  refine xg_bg C0 hin hz l_bg dX0_moveTo_2 ?_
  refine lv_iload_n C0.1.1 C0.1.2.1 dX0_moveTo_5 rfl (lv_at hl 1 rfl) ?_
  refine xl_bg C0 hz h (by omega) rfl dX0_moveTo_6 ?_
  refine gs_eq (y := nI b) (hb) ?_
  refine lv_icmp_ne (tgt := 11) C0.1.1 C0.1.2.1 dX0_moveTo_7 (by decide) (fun c1 => ?_) (fun c1 => ?_)
  · rw [nI_eq (by omega) (by omega)] at c1
    refine lv_aload_n C0.1.1 C0.1.2.1 dX0_moveTo_11 rfl (lv_at hl 0 rfl) ?_
    refine xg_hp C0 hin hz l_hp dX0_moveTo_12 ?_
    refine lv_aload_n C0.1.1 C0.1.2.1 dX0_moveTo_15 rfl (lv_at hl 0 rfl) ?_
    refine xg_bg C0 hin hz l_bg dX0_moveTo_16 ?_
    refine lv_iload_n C0.1.1 C0.1.2.1 dX0_moveTo_19 rfl (lv_at hl 1 rfl) ?_
    refine xl_bg C0 hz h (by omega) rfl dX0_moveTo_20 ?_
    refine gs_eq (y := nI b) (hb) ?_
    refine lv_aload_n C0.1.1 C0.1.2.1 dX0_moveTo_21 rfl (lv_at hl 0 rfl) ?_
    refine xg_hp C0 hin hz l_hp dX0_moveTo_22 ?_
    refine lv_iload_n C0.1.1 C0.1.2.1 dX0_moveTo_25 rfl (lv_at hl 2 rfl) ?_
    refine lv_aload_n C0.1.1 C0.1.2.1 dX0_moveTo_26 rfl (lv_at hl 0 rfl) ?_
    refine xg_ln C0 hin hz l_ln dX0_moveTo_27 ?_
    refine lv_iload_n C0.1.1 C0.1.2.1 dX0_moveTo_30 rfl (lv_at hl 1 rfl) ?_
    refine xl_ln C0 hz h (by omega) rfl dX0_moveTo_31 ?_
    refine gs_eq (y := nI n) (hn) ?_
    refine gs_copy C0 hz 1 rfl b a n (by omega) (by omega) (by decide) (by decide +kernel) (by decide +kernel) (by decide +kernel) (by decide +kernel) hl.1 (Nat.le_of_ble_eq_true rfl) (by decide +kernel) dX0_moveTo_32 (fun H locs hz => ?_)
    have hz : gs_Z G (xw G q (xs_hp r (va_cpy (x_hp r) (x_hp r) b a n))) _ s H locs := hz
    refine lv_aload_n C0.1.1 C0.1.2.1 dX0_moveTo_35 rfl (lv_at hl 0 rfl) ?_
    refine xg_bg C0 hin hz l_bg dX0_moveTo_36 ?_
    refine lv_iload_n C0.1.1 C0.1.2.1 dX0_moveTo_39 rfl (lv_at hl 1 rfl) ?_
    refine lv_iload_n C0.1.1 C0.1.2.1 dX0_moveTo_40 rfl (lv_at hl 2 rfl) ?_
    refine xt_bg C0 hz h (by omega) rfl dX0_moveTo_41 (fun H locs hz => ?_)
    have hz : gs_Z G (xw G q (xs_bg (xs_hp r (va_cpy (x_hp r) (x_hp r) b a n)) (upd (x_bg r) h (nI a)))) _ s H locs := hz
    refine lv_aload_n C0.1.1 C0.1.2.1 dX0_moveTo_42 rfl (lv_at hl 0 rfl) ?_
    refine lv_dup C0.1.1 C0.1.2.1 dX0_moveTo_43 rfl ?_
    refine xg_mv C0 hin hz l_mv dX0_moveTo_44 ?_
    refine gs_eq (y := x_mv r) (rfl) ?_
    refine lv_aload_n C0.1.1 C0.1.2.1 dX0_moveTo_47 rfl (lv_at hl 0 rfl) ?_
    refine xg_ln C0 hin hz l_ln dX0_moveTo_48 ?_
    refine lv_iload_n C0.1.1 C0.1.2.1 dX0_moveTo_51 rfl (lv_at hl 1 rfl) ?_
    refine xl_ln C0 hz h (by omega) rfl dX0_moveTo_52 ?_
    refine gs_eq (y := nI n) (hn) ?_
    refine lv_iadd C0.1.1 C0.1.2.1 dX0_moveTo_53 ?_
    refine xp_mv C0 hin hz l_mv dX0_moveTo_54 (fun H locs hz => ?_)
    exact gs_retv (xs_mv (xs_bg (xs_hp r (va_cpy (x_hp r) (x_hp r) b a n)) (upd (x_bg r) h (nI a))) ((x_mv r) + (nI n))) C0 hz (by rw [if_neg c1]) (Nat.le_of_ble_eq_true rfl) (Nat.le_of_ble_eq_true rfl) dX0_moveTo_57
  · rw [nI_eq (by omega) (by omega)] at c1
    exact gs_retv r C0 hz (by rw [if_pos c1]) (Nat.le_of_ble_eq_true rfl) (Nat.le_of_ble_eq_true rfl) dX0_moveTo_10
end
section
/-! HandleHeap: blocks lost, slid, found room for, made -/
set_option maxHeartbeats 4000000 in
set_option maxRecDepth 100000 in
/-- takeBlock -/
theorem k_takeBlock (l : Launch) (G : gs_G) (q : Nat → Nat) (r : xr) (S : hs_S) (hS : rx S r) (hJ : hs_J S) (h v : Nat) (hh : h < 48) (hv : v < 2) : gm_v l yX0_takeBlock wsX0_takeBlock (gm_rm 2 0 0) G (xw G q) r [.ref (q 0), .int (nI h), .int (xb v 0)] (fun u => rx (hs_tk S h v) u) 0 0 := by
  refine gm_v.of (cc := cX0_takeBlock) (nL := 3) (ret := none) (by decide +kernel) rfl (Nat.le_of_ble_eq_true rfl) ?_
  intro p e s m args below meth c ls C0 hz hl
  have hin : ∀ w ∈ wsX00, w ∈ wsX0_takeBlock := by decide +kernel
  have l_bg : Cond.fieldLink RX0 13 "HandleHeap" "begin" "[I" ∈ wsX0_takeBlock := by decide +kernel
  have l_ln : Cond.fieldLink RX0 22 "HandleHeap" "length" "[I" ∈ wsX0_takeBlock := by decide +kernel
  have hl : lv_has ls 3 [(0, .ref (q 0)), (1, .int (nI h)), (2, .int (xb v 0))] := hl
  refine lv_aload_n C0.1.1 C0.1.2.1 dX0_takeBlock_0 rfl (lv_at hl 0 rfl) ?_
  refine lv_iload_n C0.1.1 C0.1.2.1 dX0_takeBlock_1 rfl (lv_at hl 1 rfl) ?_
  refine gs_callVv (w := xw G q) (wr := []) C0.1 (k_leaveRow l G q r (hs_R S) hS.2.2.2.1 hJ.len (fun x hx => (hJ.2 x hx).1) h hh) (cwV 1 C0.1.2.2.2.2 gX0_takeBlock_X0_leaveRow rfl rfl rfl (by decide +kernel) ⟨Nat.le_of_ble_eq_true rfl, Nat.le_of_ble_eq_true rfl⟩) (ci := 0) rfl rfl rfl (gs_nil hz) rfl hl.1 rfl (Nat.le_of_ble_eq_true rfl) dX0_takeBlock_2 ⟨Nat.le_of_ble_eq_true rfl, Nat.le_of_ble_eq_true rfl⟩ (fun u H locs hp hz => ?_)
  replace hz := gs_unnil hz
  obtain ⟨w, rfl, hw⟩ := hp
  refine lv_aload_n C0.1.1 C0.1.2.1 dX0_takeBlock_5 rfl (lv_at hl 0 rfl) ?_
  refine xg_bg C0 hin hz l_bg dX0_takeBlock_6 ?_
  refine lv_iload_n C0.1.1 C0.1.2.1 dX0_takeBlock_9 rfl (lv_at hl 1 rfl) ?_
  refine lv_iload_n C0.1.1 C0.1.2.1 dX0_takeBlock_10 rfl (lv_at hl 2 rfl) ?_
  refine xt_bg C0 hz h (by omega) rfl dX0_takeBlock_11 (fun H locs hz => ?_)
  refine lv_aload_n C0.1.1 C0.1.2.1 dX0_takeBlock_12 rfl (lv_at hl 0 rfl) ?_
  refine xg_ln C0 hin hz l_ln dX0_takeBlock_13 ?_
  refine lv_iload_n C0.1.1 C0.1.2.1 dX0_takeBlock_16 rfl (lv_at hl 1 rfl) ?_
  refine lv_iconst (v := nI 0) C0.1.1 C0.1.2.1 dX0_takeBlock_17 (by decide) ?_
  refine xt_ln C0 hz h (by omega) rfl dX0_takeBlock_18 (fun H locs hz => ?_)
  exact gs_retv (xs_ln (xs_bg (xs_nb (xs_rw r w) (nI (hg_out (hs_R S) h).length)) (upd (x_bg (xs_nb (xs_rw r w) (nI (hg_out (hs_R S) h).length))) h (xb v 0))) (upd (x_ln (xs_bg (xs_nb (xs_rw r w) (nI (hg_out (hs_R S) h).length)) (upd (x_bg (xs_nb (xs_rw r w) (nI (hg_out (hs_R S) h).length))) h (xb v 0)))) h (nI 0))) C0 hz (rx_tk hS hh hv hw) (Nat.le_of_ble_eq_true rfl) (Nat.le_of_ble_eq_true rfl) dX0_takeBlock_19
set_option maxHeartbeats 4000000 in
set_option maxRecDepth 100000 in
/-- giveUp -/
theorem k_giveUp (l : Launch) (G : gs_G) (q : Nat → Nat) (r : xr) (S : hs_S) (hS : rx S r) (hJ : hs_J S) (h : Nat) (hh : h < 48) : gm_v l yX0_giveUp wsX0_giveUp (gm_rm 3 0 0) G (xw G q) r [.ref (q 0), .int (nI h)] (fun u => rx (hs_gu S h) u) 0 0 := by
  refine gm_v.of (cc := cX0_giveUp) (nL := 2) (ret := none) (by decide +kernel) rfl (Nat.le_of_ble_eq_true rfl) ?_
  intro p e s m args below meth c ls C0 hz hl
  have hin : ∀ w ∈ wsX00, w ∈ wsX0_giveUp := by decide +kernel
  have l_lo : Cond.fieldLink RX0 45 "HandleHeap" "blocksLost" "I" ∈ wsX0_giveUp := by decide +kernel
  have hl : lv_has ls 2 [(0, .ref (q 0)), (1, .int (nI h))] := hl
  refine lv_aload_n C0.1.1 C0.1.2.1 dX0_giveUp_0 rfl (lv_at hl 0 rfl) ?_
  refine lv_iload_n C0.1.1 C0.1.2.1 dX0_giveUp_1 rfl (lv_at hl 1 rfl) ?_
  refine lv_bipush (v := (-2)) C0.1.1 C0.1.2.1 dX0_giveUp_2 (by decide) ?_
  refine gs_eq (y := xb 1 0) (rfl) ?_
  refine gs_callVv (w := xw G q) (wr := []) C0.1 (k_takeBlock l G q r S hS hJ h 1 hh (by decide)) (cwV 2 C0.1.2.2.2.2 gX0_giveUp_X0_takeBlock rfl rfl rfl (by decide +kernel) ⟨Nat.le_of_ble_eq_true rfl, Nat.le_of_ble_eq_true rfl⟩) (ci := 0) rfl rfl rfl (gs_nil hz) rfl hl.1 rfl (Nat.le_of_ble_eq_true rfl) dX0_giveUp_4 ⟨Nat.le_of_ble_eq_true rfl, Nat.le_of_ble_eq_true rfl⟩ (fun u H locs hp hz => ?_)
  replace hz := gs_unnil hz
  refine lv_aload_n C0.1.1 C0.1.2.1 dX0_giveUp_7 rfl (lv_at hl 0 rfl) ?_
  refine lv_dup C0.1.1 C0.1.2.1 dX0_giveUp_8 rfl ?_
  refine xg_lo C0 hin hz l_lo dX0_giveUp_9 ?_
  refine lv_iconst (v := nI 1) C0.1.1 C0.1.2.1 dX0_giveUp_12 (by decide) ?_
  refine lv_iadd C0.1.1 C0.1.2.1 dX0_giveUp_13 ?_
  refine xp_lo C0 hin hz l_lo dX0_giveUp_14 (fun H locs hz => ?_)
  exact gs_retv (xs_lo u ((x_lo u) + (nI 1))) C0 hz (rx_lo hp) (Nat.le_of_ble_eq_true rfl) (Nat.le_of_ble_eq_true rfl) dX0_giveUp_17
set_option maxHeartbeats 4000000 in
set_option maxRecDepth 100000 in
/-- giveUpFirst -/
theorem k_giveUpFirst (l : Launch) (G : gs_G) (q : Nat → Nat) (r : xr) (S : hs_S) (hS : rx S r) (hJ : hs_J S) (but : Nat) (sp : Int32) (hsp : (but < 48 ∧ sp = nI but) ∨ (but = 48 ∧ sp = -1)) : gm_i l yX0_giveUpFirst wsX0_giveUpFirst (gm_rm 4 0 0) G (xw G q) r [.ref (q 0), .int sp] (fun res u => match hs_l1 S but with | none => res = nI 0 ∧ u = r | some h => res = nI 1 ∧ rx (hs_gu S h) u) 0 0 := by
  refine gm_i.of (cc := cX0_giveUpFirst) (nL := 4) (ret := (some .boolean)) (by decide +kernel) rfl (Nat.le_of_ble_eq_true rfl) ?_
  intro p e s m args below meth c ls C0 hz hl
  have hin : ∀ w ∈ wsX00, w ∈ wsX0_giveUpFirst := by decide +kernel
  have l_nb : Cond.fieldLink RX0 38 "HandleHeap" "blocks" "I" ∈ wsX0_giveUpFirst := by decide +kernel
  have l_rw : Cond.fieldLink RX0 35 "HandleHeap" "row" "[I" ∈ wsX0_giveUpFirst := by decide +kernel
  have l_ls : Cond.fieldLink RX0 32 "HandleHeap" "isLosable" "[Z" ∈ wsX0_giveUpFirst := by decide +kernel
  have hl : lv_has ls 4 [(0, .ref (q 0)), (1, .int sp)] := hl
  have hlen := hJ.len
  have hq : ∀ x, x < 48 → (nI x = sp ↔ x = but) := by
    intro x hx
    rcases hsp with ⟨h1, h2⟩ | ⟨h1, h2⟩
    · rw [h2, nI_eq (by omega) (by omega)]
    · rw [h2]
      exact ⟨fun z => absurd z (n0_ne (by omega)), fun z => by omega⟩
  refine lv_iconst (v := nI 0) C0.1.1 C0.1.2.1 dX0_giveUpFirst_0 (by decide) ?_
  refine lv_istore_n (lv' := [(2, .int (nI 0)), (0, .ref (q 0)), (1, .int sp)]) C0.1.1 C0.1.2.1 dX0_giveUpFirst_1 rfl hl (by decide) rfl (fun ls hl => ?_)
  have hl : lv_has ls 4 [(0, .ref (q 0)), (1, .int sp), (2, .int (nI 0))] := lv_sub hl [1, 2, 0] rfl
  refine (?loop : ∀ (d k : Nat) (ls : Array Slot) (H : Heap) (locs : List Loc), gs_Z G (xw G q r) _ s H locs → k + d = (hs_R S).length → hs_l1 S but = hs_lf S but d k → lv_has ls 4 [(0, .ref (q 0)), (1, .int sp), (2, .int (nI k))] → W p l e _ s m args below meth c H locs 0 0 _ (F0 m 2 ls [])) _ 0 ls _ _ hz (Nat.zero_add _) rfl hl
  intro d
  induction d using Nat.strongRecOn with
  | _ d ih =>
    intro k ls H locs hz hd key hl
    refine lv_iload_n C0.1.1 C0.1.2.1 dX0_giveUpFirst_2 rfl (lv_at hl 2 rfl) ?_
    refine lv_aload_n C0.1.1 C0.1.2.1 dX0_giveUpFirst_3 rfl (lv_at hl 0 rfl) ?_
    refine xg_nb C0 hin hz l_nb dX0_giveUpFirst_4 ?_
    refine gs_eq (y := nI ((hs_R S).length)) (hS.2.2.2.1.1) ?_
    refine lv_icmp_ge (tgt := 52) C0.1.1 C0.1.2.1 dX0_giveUpFirst_7 (by decide) (fun c1 => ?_) (fun c1 => ?_)
    · rw [nI_leI (by omega) (by omega)] at c1
      obtain rfl : d = 0 := by omega
      refine lv_iconst (v := nI 0) C0.1.1 C0.1.2.1 dX0_giveUpFirst_52 (by decide) ?_
      exact gs_retz r C0 hz (by decide) (by rw [key]; exact ⟨rfl, rfl⟩) (Nat.le_of_ble_eq_true rfl) (Nat.le_of_ble_eq_true rfl) dX0_giveUpFirst_53
    · rw [nI_leI (by omega) (by omega)] at c1
      obtain ⟨d', rfl⟩ : ∃ d', d = d' + 1 := ⟨d - 1, by omega⟩
      have hk1 : k < (hs_R S).length := by omega
      have hat := hJ.at hk1
      have hfl := hS.2.2.1 _ hat.1 hat.2
      refine lv_aload_n C0.1.1 C0.1.2.1 dX0_giveUpFirst_10 rfl (lv_at hl 0 rfl) ?_
      refine xg_rw C0 hin hz l_rw dX0_giveUpFirst_11 ?_
      refine lv_iload_n C0.1.1 C0.1.2.1 dX0_giveUpFirst_14 rfl (lv_at hl 2 rfl) ?_
      refine xl_rw C0 hz k (by omega) rfl dX0_giveUpFirst_15 ?_
      refine gs_eq (y := nI (hg_at (hs_R S) k)) (hS.2.2.2.1.2 _ hk1) ?_
      refine lv_istore_n (lv' := [(3, .int (nI (hg_at (hs_R S) k))), (0, .ref (q 0)), (1, .int sp), (2, .int (nI k))]) C0.1.1 C0.1.2.1 dX0_giveUpFirst_16 rfl hl (by decide) rfl (fun ls hl => ?_)
      refine lv_iload_n C0.1.1 C0.1.2.1 dX0_giveUpFirst_17 rfl (lv_at hl 0 rfl) ?_
      refine lv_iload_n C0.1.1 C0.1.2.1 dX0_giveUpFirst_18 rfl (lv_at hl 2 rfl) ?_
      refine lv_icmp_eq (tgt := 46) C0.1.1 C0.1.2.1 dX0_giveUpFirst_19 (by decide) (fun c2 => ?_) (fun c2 => ?_)
      · skip
        rw [hq _ hat.1] at c2
        refine lv_iinc (v := nI (k + 1)) (lv' := [(2, .int (nI (k + 1))), (3, .int (nI (hg_at (hs_R S) k))), (0, .ref (q 0)), (1, .int sp)]) C0.1.1 C0.1.2.1 dX0_giveUpFirst_46 hl (k := 3) rfl (nI_1 k) (by decide) rfl (fun ls hl => ?_)
        refine lv_goto (tgt := 2) C0.1.1 C0.1.2.1 dX0_giveUpFirst_49 (by decide) ?_
        have hl : lv_has ls 4 [(0, .ref (q 0)), (1, .int sp), (2, .int (nI (k + 1)))] := lv_sub hl [2, 3, 0] rfl
        exact ih d' (by omega) (k + 1) ls _ _ hz (by omega) (by rw [key, hs_lf, if_neg (fun z => z.1 c2)]) hl
      · skip
        rw [hq _ hat.1] at c2
        refine lv_aload_n C0.1.1 C0.1.2.1 dX0_giveUpFirst_22 rfl (lv_at hl 1 rfl) ?_
        refine xg_ls C0 hin hz l_ls dX0_giveUpFirst_23 ?_
        refine lv_iload_n C0.1.1 C0.1.2.1 dX0_giveUpFirst_26 rfl (lv_at hl 0 rfl) ?_
        refine xl_ls C0 hz (hg_at (hs_R S) k) (hat.1) rfl dX0_giveUpFirst_27 ?_
        refine gs_eq (y := bI (hs_o S (hg_at (hs_R S) k))) (hfl.2.2) ?_
        refine lv_if_eq (tgt := 46) C0.1.1 C0.1.2.1 dX0_giveUpFirst_28 (by decide) (fun c3 => ?_) (fun c3 => ?_)
        · skip
          rw [bI_0] at c3
          refine lv_iinc (v := nI (k + 1)) (lv' := [(2, .int (nI (k + 1))), (3, .int (nI (hg_at (hs_R S) k))), (0, .ref (q 0)), (1, .int sp)]) C0.1.1 C0.1.2.1 dX0_giveUpFirst_46 hl (k := 3) rfl (nI_1 k) (by decide) rfl (fun ls hl => ?_)
          refine lv_goto (tgt := 2) C0.1.1 C0.1.2.1 dX0_giveUpFirst_49 (by decide) ?_
          have hl : lv_has ls 4 [(0, .ref (q 0)), (1, .int sp), (2, .int (nI (k + 1)))] := lv_sub hl [2, 3, 0] rfl
          exact ih d' (by omega) (k + 1) ls _ _ hz (by omega) (by rw [key, hs_lf, if_neg (fun z => by rw [c3] at z; exact absurd z.2.1 (by decide))]) hl
        · skip
          rw [bI_0] at c3
          refine lv_aload_n C0.1.1 C0.1.2.1 dX0_giveUpFirst_31 rfl (lv_at hl 1 rfl) ?_
          refine lv_iload_n C0.1.1 C0.1.2.1 dX0_giveUpFirst_32 rfl (lv_at hl 0 rfl) ?_
          refine gs_callVi (w := xw G q) (wr := []) C0.1 (k_isMovable l G q r (hg_at (hs_R S) k) hat.1) (cwV 1 C0.1.2.2.2.2 gX0_giveUpFirst_X0_isMovable rfl rfl rfl (by decide +kernel) ⟨Nat.le_of_ble_eq_true rfl, Nat.le_of_ble_eq_true rfl⟩) (ci := 0) rfl rfl rfl (gs_nil hz) rfl hl.1 rfl (Nat.le_of_ble_eq_true rfl) dX0_giveUpFirst_33 ⟨Nat.le_of_ble_eq_true rfl, Nat.le_of_ble_eq_true rfl⟩ (fun res u9 H locs hp9 hz => ?_)
          replace hz := gs_unnil hz
          rw [hp9.1] at hz
          refine gs_eq (y := bI (hs_mv S (hg_at (hs_R S) k))) (by rw [hp9.2, hfl.1, hfl.2.1]; unfold hs_mv; cases hs_f S (hg_at (hs_R S) k) <;> cases hs_l S (hg_at (hs_R S) k) <;> rfl) ?_
          clear hp9
          refine lv_if_eq (tgt := 46) C0.1.1 C0.1.2.1 dX0_giveUpFirst_36 (by decide) (fun c4 => ?_) (fun c4 => ?_)
          · skip
            rw [bI_0] at c4
            refine lv_iinc (v := nI (k + 1)) (lv' := [(2, .int (nI (k + 1))), (3, .int (nI (hg_at (hs_R S) k))), (0, .ref (q 0)), (1, .int sp)]) C0.1.1 C0.1.2.1 dX0_giveUpFirst_46 hl (k := 3) rfl (nI_1 k) (by decide) rfl (fun ls hl => ?_)
            refine lv_goto (tgt := 2) C0.1.1 C0.1.2.1 dX0_giveUpFirst_49 (by decide) ?_
            have hl : lv_has ls 4 [(0, .ref (q 0)), (1, .int sp), (2, .int (nI (k + 1)))] := lv_sub hl [2, 3, 0] rfl
            exact ih d' (by omega) (k + 1) ls _ _ hz (by omega) (by rw [key, hs_lf, if_neg (fun z => by rw [c4] at z; exact absurd z.2.2 (by decide))]) hl
          · skip
            rw [bI_0] at c4
            have e1 : hs_l1 S but = some (hg_at (hs_R S) k) := by rw [key, hs_lf, if_pos ⟨c2, by simpa using c3, by simpa using c4⟩]
            refine lv_aload_n C0.1.1 C0.1.2.1 dX0_giveUpFirst_39 rfl (lv_at hl 1 rfl) ?_
            refine lv_iload_n C0.1.1 C0.1.2.1 dX0_giveUpFirst_40 rfl (lv_at hl 0 rfl) ?_
            refine gs_callVv (w := xw G q) (wr := []) C0.1 (k_giveUp l G q r S hS hJ (hg_at (hs_R S) k) hat.1) (cwV 1 C0.1.2.2.2.2 gX0_giveUpFirst_X0_giveUp rfl rfl rfl (by decide +kernel) ⟨Nat.le_of_ble_eq_true rfl, Nat.le_of_ble_eq_true rfl⟩) (ci := 0) rfl rfl rfl (gs_nil hz) rfl hl.1 rfl (Nat.le_of_ble_eq_true rfl) dX0_giveUpFirst_41 ⟨Nat.le_of_ble_eq_true rfl, Nat.le_of_ble_eq_true rfl⟩ (fun u H locs hp hz => ?_)
            replace hz := gs_unnil hz
            refine lv_iconst (v := nI 1) C0.1.1 C0.1.2.1 dX0_giveUpFirst_44 (by decide) ?_
            exact gs_retz u C0 hz (by decide) (by rw [e1]; exact ⟨rfl, hp⟩) (Nat.le_of_ble_eq_true rfl) (Nat.le_of_ble_eq_true rfl) dX0_giveUpFirst_45
set_option maxHeartbeats 4000000 in
set_option maxRecDepth 100000 in
/-- slideTogether -/
theorem k_slideTogether (l : Launch) (G : gs_G) (q : Nat → Nat) (r : xr) (S : hs_S) (hS : rx S r) (hI : hs_I S) : gm_v l yX0_slideTogether wsX0_slideTogether (gm_rm 3 0 0) G (xw G q) r [.ref (q 0)] (fun u => rx (hs_sl S) u) 0 0 := by
  refine gm_v.of (cc := cX0_slideTogether) (nL := 4) (ret := none) (by decide +kernel) rfl (Nat.le_of_ble_eq_true rfl) ?_
  intro p e s m args below meth c ls C0 hz hl
  have hin : ∀ w ∈ wsX00, w ∈ wsX0_slideTogether := by decide +kernel
  have l_nb : Cond.fieldLink RX0 38 "HandleHeap" "blocks" "I" ∈ wsX0_slideTogether := by decide +kernel
  have l_rw : Cond.fieldLink RX0 35 "HandleHeap" "row" "[I" ∈ wsX0_slideTogether := by decide +kernel
  have hl : lv_has ls 4 [(0, .ref (q 0))] := hl
  have hlen := hI.J.len
  refine lv_iconst (v := nI 0) C0.1.1 C0.1.2.1 dX0_slideTogether_0 (by decide) ?_
  refine lv_istore_n (lv' := [(1, .int (nI 0)), (0, .ref (q 0))]) C0.1.1 C0.1.2.1 dX0_slideTogether_1 rfl hl (by decide) rfl (fun ls hl => ?_)
  refine lv_iconst (v := nI 0) C0.1.1 C0.1.2.1 dX0_slideTogether_2 (by decide) ?_
  refine lv_istore_n (lv' := [(2, .int (nI 0)), (1, .int (nI 0)), (0, .ref (q 0))]) C0.1.1 C0.1.2.1 dX0_slideTogether_3 rfl hl (by decide) rfl (fun ls hl => ?_)
  have hl : lv_has ls 4 [(0, .ref (q 0)), (1, .int (nI 0)), (2, .int (nI 0))] := lv_sub hl [2, 1, 0] rfl
  refine (?loop : ∀ (d k : Nat) (rk : xr) (ls : Array Slot) (H : Heap) (locs : List Loc), gs_Z G (xw G q rk) _ s H locs → k + d = (hs_R S).length → rx (hs_slk S k) rk → lv_has ls 4 [(0, .ref (q 0)), (1, .int (nI (hs_gb (hs_slk S k) k))), (2, .int (nI k))] → W p l e _ s m args below meth c H locs 0 0 _ (F0 m 4 ls [])) _ 0 r ls _ _ hz (Nat.zero_add _) hS hl
  intro d
  induction d using Nat.strongRecOn with
  | _ d ih =>
    intro k rk ls H locs hz hd hu hl
    have hIk : hs_I (hs_slk S k) := hs_slk_I hI (by omega)
    refine lv_iload_n C0.1.1 C0.1.2.1 dX0_slideTogether_4 rfl (lv_at hl 2 rfl) ?_
    refine lv_aload_n C0.1.1 C0.1.2.1 dX0_slideTogether_5 rfl (lv_at hl 0 rfl) ?_
    refine xg_nb C0 hin hz l_nb dX0_slideTogether_6 ?_
    refine gs_eq (y := nI ((hs_R S).length)) (hu.2.2.2.1.1) ?_
    refine lv_icmp_ge (tgt := 45) C0.1.1 C0.1.2.1 dX0_slideTogether_9 (by decide) (fun c1 => ?_) (fun c1 => ?_)
    · rw [nI_leI (by omega) (by omega)] at c1
      obtain rfl : k = (hs_R S).length := by omega
      exact gs_retv rk C0 hz (hu) (Nat.le_of_ble_eq_true rfl) (Nat.le_of_ble_eq_true rfl) dX0_slideTogether_45
    · rw [nI_leI (by omega) (by omega)] at c1
      have hk1 : k < (hs_R S).length := by omega
      have hat := hIk.J.at (k := k) hk1
      have hat1 : hg_at (hs_R S) k < 48 := hat.1
      have hat2 : hs_u S (hg_at (hs_R S) k) = 2 := hat.2
      have hfl := hu.2.2.1 _ hat1 hat2
      have hgb : hs_gb (hs_slk S k) k ≤ 1024 := hg_gble hIk.1 (by show k ≤ (hs_R S).length; omega)
      have hend : hs_b (hs_slk S k) (hg_at (hs_R S) k) + hs_n (hs_slk S k) (hg_at (hs_R S) k) ≤ 1024 := hIk.J.ge (k := k) hk1
      have hlo : hs_gb (hs_slk S k) k ≤ hs_b (hs_slk S k) (hg_at (hs_R S) k) := hg_lo hIk.1 (k := k) hk1
      have hbg : x_bg rk (hg_at (hs_R S) k) = nI (hs_b (hs_slk S k) (hg_at (hs_R S) k)) := (hu.1 _ hat1).trans (xb_2 hat2)
      have hln : x_ln rk (hg_at (hs_R S) k) = nI (hs_n (hs_slk S k) (hg_at (hs_R S) k)) := hu.2.1 _ hat1
      have hgo := rx_go hu hat1 hat2 (hs_sl_d hIk (k := k) hk1)
      have hst := hs_slk_s hI hk1
      refine lv_aload_n C0.1.1 C0.1.2.1 dX0_slideTogether_12 rfl (lv_at hl 0 rfl) ?_
      refine xg_rw C0 hin hz l_rw dX0_slideTogether_13 ?_
      refine lv_iload_n C0.1.1 C0.1.2.1 dX0_slideTogether_16 rfl (lv_at hl 2 rfl) ?_
      refine xl_rw C0 hz k (by omega) rfl dX0_slideTogether_17 ?_
      refine gs_eq (y := nI (hg_at (hs_R S) k)) (hu.2.2.2.1.2 _ hk1) ?_
      refine lv_istore_n (lv' := [(3, .int (nI (hg_at (hs_R S) k))), (0, .ref (q 0)), (1, .int (nI (hs_gb (hs_slk S k) k))), (2, .int (nI k))]) C0.1.1 C0.1.2.1 dX0_slideTogether_18 rfl hl (by decide) rfl (fun ls hl => ?_)
      refine lv_aload_n C0.1.1 C0.1.2.1 dX0_slideTogether_19 rfl (lv_at hl 1 rfl) ?_
      refine lv_iload_n C0.1.1 C0.1.2.1 dX0_slideTogether_20 rfl (lv_at hl 0 rfl) ?_
      refine gs_callVi (w := xw G q) (wr := []) C0.1 (k_isMovable l G q rk (hg_at (hs_R S) k) hat1) (cwV 1 C0.1.2.2.2.2 gX0_slideTogether_X0_isMovable rfl rfl rfl (by decide +kernel) ⟨Nat.le_of_ble_eq_true rfl, Nat.le_of_ble_eq_true rfl⟩) (ci := 0) rfl rfl rfl (gs_nil hz) rfl hl.1 rfl (Nat.le_of_ble_eq_true rfl) dX0_slideTogether_21 ⟨Nat.le_of_ble_eq_true rfl, Nat.le_of_ble_eq_true rfl⟩ (fun res u9 H locs hp9 hz => ?_)
      replace hz := gs_unnil hz
      rw [hp9.1] at hz
      refine gs_eq (y := bI (hs_mv S (hg_at (hs_R S) k))) (by rw [hp9.2, hfl.1, hfl.2.1]; unfold hs_mv; show _ = bI (!hs_f S (hg_at (hs_R S) k) && !hs_l S (hg_at (hs_R S) k)); show bI (decide (bI (hs_f S (hg_at (hs_R S) k)) = 0) && decide (bI (hs_l S (hg_at (hs_R S) k)) = 0)) = _; cases hs_f S (hg_at (hs_R S) k) <;> cases hs_l S (hg_at (hs_R S) k) <;> rfl) ?_
      clear hp9
      refine lv_if_eq (tgt := 33) C0.1.1 C0.1.2.1 dX0_slideTogether_24 (by decide) (fun c2 => ?_) (fun c2 => ?_)
      · skip
        rw [bI_0] at c2
        have hst2 : hs_slk S (k + 1) = hs_slk S k := by rw [hst, if_neg (by rw [c2]; decide)]
        refine lv_aload_n C0.1.1 C0.1.2.1 dX0_slideTogether_33 rfl (lv_at hl 1 rfl) ?_
        refine lv_iload_n C0.1.1 C0.1.2.1 dX0_slideTogether_34 rfl (lv_at hl 0 rfl) ?_
        refine gs_callVi (w := xw G q) (wr := []) C0.1 (k_endOf l G q rk (hg_at (hs_R S) k) hat1) (cwV 1 C0.1.2.2.2.2 gX0_slideTogether_X0_endOf rfl rfl rfl (by decide +kernel) ⟨Nat.le_of_ble_eq_true rfl, Nat.le_of_ble_eq_true rfl⟩) (ci := 0) rfl rfl rfl (gs_nil hz) rfl hl.1 rfl (Nat.le_of_ble_eq_true rfl) dX0_slideTogether_35 ⟨Nat.le_of_ble_eq_true rfl, Nat.le_of_ble_eq_true rfl⟩ (fun res u9 H locs hp9 hz => ?_)
        replace hz := gs_unnil hz
        rw [hp9.1] at hz
        refine gs_eq (y := nI (hs_gb (hs_slk S (k + 1)) (k + 1))) (by rw [hp9.2, hbg, hln, nI_add, hst2]; rfl) ?_
        clear hp9
        refine lv_istore_n (lv' := [(1, .int (nI (hs_gb (hs_slk S (k + 1)) (k + 1)))), (3, .int (nI (hg_at (hs_R S) k))), (0, .ref (q 0)), (2, .int (nI k))]) C0.1.1 C0.1.2.1 dX0_slideTogether_38 rfl hl (by decide) rfl (fun ls hl => ?_)
        refine lv_iinc (v := nI (k + 1)) (lv' := [(2, .int (nI (k + 1))), (1, .int (nI (hs_gb (hs_slk S (k + 1)) (k + 1)))), (3, .int (nI (hg_at (hs_R S) k))), (0, .ref (q 0))]) C0.1.1 C0.1.2.1 dX0_slideTogether_39 hl (k := 3) rfl (nI_1 k) (by decide) rfl (fun ls hl => ?_)
        refine lv_goto (tgt := 4) C0.1.1 C0.1.2.1 dX0_slideTogether_42 (by decide) ?_
        have hl : lv_has ls 4 [(0, .ref (q 0)), (1, .int (nI (hs_gb (hs_slk S (k + 1)) (k + 1)))), (2, .int (nI (k + 1)))] := lv_sub hl [3, 1, 0] rfl
        exact ih (d - 1) (by omega) (k + 1) rk ls _ _ hz (by omega) (by rw [hst2]; exact hu) hl
      · skip
        rw [bI_0] at c2
        have hst2 : hs_slk S (k + 1) = hs_go (hs_slk S k) (hg_at (hs_R S) k) (hs_gb (hs_slk S k) k) := by rw [hst, if_pos (by simpa using c2)]
        refine lv_aload_n C0.1.1 C0.1.2.1 dX0_slideTogether_27 rfl (lv_at hl 1 rfl) ?_
        refine lv_iload_n C0.1.1 C0.1.2.1 dX0_slideTogether_28 rfl (lv_at hl 0 rfl) ?_
        refine lv_iload_n C0.1.1 C0.1.2.1 dX0_slideTogether_29 rfl (lv_at hl 2 rfl) ?_
        refine gs_callVv (w := xw G q) (wr := []) C0.1 (k_moveTo l G q rk (hg_at (hs_R S) k) _ _ _ hat1 hbg hln hend (Nat.le_trans (Nat.add_le_add_right hlo _) hend)) (cwV 2 C0.1.2.2.2.2 gX0_slideTogether_X0_moveTo rfl rfl rfl (by decide +kernel) ⟨Nat.le_of_ble_eq_true rfl, Nat.le_of_ble_eq_true rfl⟩) (ci := 0) rfl rfl rfl (gs_nil hz) rfl hl.1 rfl (Nat.le_of_ble_eq_true rfl) dX0_slideTogether_30 ⟨Nat.le_of_ble_eq_true rfl, Nat.le_of_ble_eq_true rfl⟩ (fun u H locs hp hz => ?_)
        replace hz := gs_unnil hz
        rw [hp] at hz
        obtain ⟨u2, eu2⟩ : ∃ z, z = (if hs_gb (hs_slk S k) k = hs_b (hs_slk S k) (hg_at (hs_R S) k) then rk else xs_mv (xs_bg (xs_hp rk (va_cpy (x_hp rk) (x_hp rk) (hs_b (hs_slk S k) (hg_at (hs_R S) k)) (hs_gb (hs_slk S k) k) (hs_n (hs_slk S k) (hg_at (hs_R S) k)))) (upd (x_bg rk) (hg_at (hs_R S) k) (nI (hs_gb (hs_slk S k) k)))) (x_mv rk + nI (hs_n (hs_slk S k) (hg_at (hs_R S) k)))) := ⟨_, rfl⟩
        rw [← eu2] at hz
        have hu2 : rx (hs_slk S (k + 1)) u2 := by rw [hst2, eu2]; exact hgo
        clear hp
        have hbg2 : x_bg u2 (hg_at (hs_R S) k) = nI (hs_b (hs_slk S (k + 1)) (hg_at (hs_R S) k)) := (hu2.1 _ hat1).trans (xb_2 hat2)
        have hln2 : x_ln u2 (hg_at (hs_R S) k) = nI (hs_n (hs_slk S (k + 1)) (hg_at (hs_R S) k)) := hu2.2.1 _ hat1
        refine lv_aload_n C0.1.1 C0.1.2.1 dX0_slideTogether_33 rfl (lv_at hl 1 rfl) ?_
        refine lv_iload_n C0.1.1 C0.1.2.1 dX0_slideTogether_34 rfl (lv_at hl 0 rfl) ?_
        refine gs_callVi (w := xw G q) (wr := []) C0.1 (k_endOf l G q u2 (hg_at (hs_R S) k) hat1) (cwV 1 C0.1.2.2.2.2 gX0_slideTogether_X0_endOf rfl rfl rfl (by decide +kernel) ⟨Nat.le_of_ble_eq_true rfl, Nat.le_of_ble_eq_true rfl⟩) (ci := 0) rfl rfl rfl (gs_nil hz) rfl hl.1 rfl (Nat.le_of_ble_eq_true rfl) dX0_slideTogether_35 ⟨Nat.le_of_ble_eq_true rfl, Nat.le_of_ble_eq_true rfl⟩ (fun res u9 H locs hp9 hz => ?_)
        replace hz := gs_unnil hz
        rw [hp9.1] at hz
        refine gs_eq (y := nI (hs_gb (hs_slk S (k + 1)) (k + 1))) (by rw [hp9.2, hbg2, hln2, nI_add]; rfl) ?_
        clear hp9
        refine lv_istore_n (lv' := [(1, .int (nI (hs_gb (hs_slk S (k + 1)) (k + 1)))), (3, .int (nI (hg_at (hs_R S) k))), (0, .ref (q 0)), (2, .int (nI k))]) C0.1.1 C0.1.2.1 dX0_slideTogether_38 rfl hl (by decide) rfl (fun ls hl => ?_)
        refine lv_iinc (v := nI (k + 1)) (lv' := [(2, .int (nI (k + 1))), (1, .int (nI (hs_gb (hs_slk S (k + 1)) (k + 1)))), (3, .int (nI (hg_at (hs_R S) k))), (0, .ref (q 0))]) C0.1.1 C0.1.2.1 dX0_slideTogether_39 hl (k := 3) rfl (nI_1 k) (by decide) rfl (fun ls hl => ?_)
        refine lv_goto (tgt := 4) C0.1.1 C0.1.2.1 dX0_slideTogether_42 (by decide) ?_
        have hl : lv_has ls 4 [(0, .ref (q 0)), (1, .int (nI (hs_gb (hs_slk S (k + 1)) (k + 1)))), (2, .int (nI (k + 1)))] := lv_sub hl [3, 1, 0] rfl
        exact ih (d - 1) (by omega) (k + 1) u2 ls _ _ hz (by omega) hu2 hl
end
section
/-! HandleHeap: room, blocks made and grown; counting handles -/
theorem xb_m1 {u b : Nat} (hb : u = 2 → b ≤ 1024) (hu : u ≤ 2) : xb u b = -1 ↔ u = 0 := by
  unfold xb
  by_cases q : u = 0
  · rw [if_pos q]; exact ⟨fun _ => q, fun _ => rfl⟩
  · rw [if_neg q]
    by_cases q2 : u = 1
    · rw [if_pos q2]; exact ⟨fun z => absurd z (by decide), fun z => absurd z q⟩
    · rw [if_neg q2]
      have := hb (by omega)
      exact ⟨fun z => absurd z (n0_ne (by omega)), fun z => absurd z q⟩
theorem xb_m2 {u b : Nat} (hb : u = 2 → b ≤ 1024) (hu : u ≤ 2) : xb u b = -2 ↔ u = 1 := by
  unfold xb
  by_cases q : u = 0
  · rw [if_pos q]; exact ⟨fun z => absurd z (by decide), fun z => by omega⟩
  · rw [if_neg q]
    by_cases q2 : u = 1
    · rw [if_pos q2]; exact ⟨fun _ => q2, fun _ => rfl⟩
    · rw [if_neg q2]
      have := hb (by omega)
      exact ⟨fun z => absurd z (n0_ne2 (by omega)), fun z => absurd z q2⟩
theorem op_cases (o : Option Nat) : (∃ k, o = some k) ∨ o = none := by
  cases o with
  | none => exact Or.inr rfl
  | some k => exact Or.inl ⟨k, rfl⟩
theorem hs_I.u2 {S : hs_S} (hI : hs_I S) {h : Nat} (hh : h < 48) : hs_u S h ≤ 2 := by
  by_cases q : hs_u S h = 2
  · omega
  · have := (hI.2.2 h hh q).2; omega
theorem hs_I.bn {S : hs_S} (hI : hs_I S) {h : Nat} (hh : h < 48) (hu : hs_u S h = 2) : hs_b S h + hs_n S h ≤ 1024 ∧ 1 ≤ hs_n S h := by
  obtain ⟨k, hk, rfl⟩ := hg_at_of ((hI.2.1 h).mpr ⟨hh, hu⟩)
  exact ⟨hg_end hI.1 hk, hI.1.2 k hk⟩
theorem hs_I.b2 {S : hs_S} (hI : hs_I S) {h : Nat} (hh : h < 48) : hs_u S h = 2 → hs_b S h ≤ 1024 := fun hu => by
  have := (hI.bn hh hu).1
  omega
set_option maxHeartbeats 4000000 in
set_option maxRecDepth 100000 in
/-- findRoom -/
theorem k_findRoom (l : Launch) (G : gs_G) (q : Nat → Nat) (r : xr) (S : hs_S) (hS : rx S r) (hI : hs_I S) (n : Nat) (hn : n ≤ 1024) (but : Nat) (sp : Int32) (hsp : (but < 48 ∧ sp = nI but) ∨ (but = 48 ∧ sp = -1)) : gm_i l yX0_findRoom wsX0_findRoom (gm_rm 5 0 0) G (xw G q) r [.ref (q 0), .int (nI n), .int sp] (fun res u => rx (hs_room S n but).1 u ∧ res = oi ((hs_room S n but).2.map (hs_gb (hs_room S n but).1))) 0 0 := by
  refine gm_i.of (cc := cX0_findRoom) (nL := 5) (ret := (some .int)) (by decide +kernel) rfl (Nat.le_of_ble_eq_true rfl) ?_
  intro p e s m args below meth c ls C0 hz hl
  have hl : lv_has ls 5 [(0, .ref (q 0)), (1, .int (nI n)), (2, .int sp)] := hl
  refine lv_aload_n C0.1.1 C0.1.2.1 dX0_findRoom_0 rfl (lv_at hl 0 rfl) ?_
  refine lv_iload_n C0.1.1 C0.1.2.1 dX0_findRoom_1 rfl (lv_at hl 1 rfl) ?_
  refine gs_callVi (w := xw G q) (wr := []) C0.1 (k_firstGapOf l G q r S hS hI.J n hn) (cwV 1 C0.1.2.2.2.2 gX0_findRoom_X0_firstGapOf rfl rfl rfl (by decide +kernel) ⟨Nat.le_of_ble_eq_true rfl, Nat.le_of_ble_eq_true rfl⟩) (ci := 0) rfl rfl rfl (gs_nil hz) rfl hl.1 rfl (Nat.le_of_ble_eq_true rfl) dX0_findRoom_2 ⟨Nat.le_of_ble_eq_true rfl, Nat.le_of_ble_eq_true rfl⟩ (fun res u9 H locs hp9 hz => ?_)
  replace hz := gs_unnil hz
  rw [hp9.1] at hz
  refine gs_eq (y := oi (hs_pk S n)) (hp9.2) ?_
  clear hp9
  refine lv_istore_n (lv' := [(3, .int (oi (hs_pk S n))), (0, .ref (q 0)), (1, .int (nI n)), (2, .int sp)]) C0.1.1 C0.1.2.1 dX0_findRoom_5 rfl hl (by decide) rfl (fun ls hl => ?_)
  refine lv_iload_n C0.1.1 C0.1.2.1 dX0_findRoom_6 rfl (lv_at hl 0 rfl) ?_
  refine lv_iconst (v := (-1)) C0.1.1 C0.1.2.1 dX0_findRoom_7 (by decide) ?_
  have go24 : ∀ (d : Nat) (T : hs_S) (rk : xr) (ls : Array Slot) (H : Heap) (locs : List Loc), gs_Z G (xw G q rk) (va_A (xw G q r) s.heap.size) s H locs → d ≤ 48 → rx T rk → hs_I T → hs_room S n but = hs_rm n but d T → lv_has ls 5 [(0, .ref (q 0)), (1, .int (nI n)), (2, .int sp), (3, .int (oi (hs_pk T n))), (4, .int (nI (48 - d)))] → W p l e (gm_rm 5 0 0) s m args below meth c H locs 0 0 (MQ below (va_Qi (fun res u => rx (hs_room S n but).1 u ∧ res = oi ((hs_room S n but).2.map (hs_gb (hs_room S n but).1))) (fun u t => gm_B G (xw G q r) s.heap.size (xw G q u) t) (va_A (xw G q r) s.heap.size)) args s 0 0 (va_A (xw G q r) s.heap.size)) (F0 m 24 ls []) := by
    intro d
    induction d using Nat.strongRecOn with
    | _ d ih =>
      intro T rk ls H locs hz hd hT1 hT2 key hl
      refine lv_iload C0.1.1 C0.1.2.1 dX0_findRoom_24 (lv_at hl 4 rfl) ?_
      refine lv_bipush (v := nI 48) C0.1.1 C0.1.2.1 dX0_findRoom_26 (by decide) ?_
      refine lv_icmp_ge (tgt := 60) C0.1.1 C0.1.2.1 dX0_findRoom_28 (by decide) (fun c1 => ?_) (fun c1 => ?_)
      · rw [nI_leI (by omega) (by omega)] at c1
        obtain rfl : d = 0 := by omega
        have e9 : hs_room S n but = (T, hs_pk T n) := key
        cases hk : hs_pk T n with
        | some k =>
          have hok := hs_pk_ok hk
          have hlenT := hT2.J.len
          have e3 : oi (hs_pk T n) = nI k := by rw [hk]; rfl
          rw [e3] at hl
          refine lv_iload_n C0.1.1 C0.1.2.1 dX0_findRoom_60 rfl (lv_at hl 3 rfl) ?_
          refine lv_iconst (v := (-1)) C0.1.1 C0.1.2.1 dX0_findRoom_61 (by decide) ?_
          refine lv_icmp_ne (tgt := 69) C0.1.1 C0.1.2.1 dX0_findRoom_62 (by decide) (fun c9 => ?_) (fun c9 => ?_)
          · skip
            refine lv_aload_n C0.1.1 C0.1.2.1 dX0_findRoom_69 rfl (lv_at hl 0 rfl) ?_
            refine lv_iload_n C0.1.1 C0.1.2.1 dX0_findRoom_70 rfl (lv_at hl 3 rfl) ?_
            refine gs_callVi (w := xw G q) (wr := []) C0.1 (k_gapBegin l G q rk T hT1 hT2.J k hok.1) (cwV 1 C0.1.2.2.2.2 gX0_findRoom_X0_gapBegin rfl rfl rfl (by decide +kernel) ⟨Nat.le_of_ble_eq_true rfl, Nat.le_of_ble_eq_true rfl⟩) (ci := 0) rfl rfl rfl (gs_nil hz) rfl hl.1 rfl (Nat.le_of_ble_eq_true rfl) dX0_findRoom_71 ⟨Nat.le_of_ble_eq_true rfl, Nat.le_of_ble_eq_true rfl⟩ (fun res u9 H locs hp9 hz => ?_)
            replace hz := gs_unnil hz
            rw [hp9.1] at hz
            refine gs_eq (y := nI (hs_gb T k)) (hp9.2) ?_
            clear hp9
            exact gs_reti rk C0 hz (by rw [e9]; dsimp only; rw [hk]; exact ⟨hT1, rfl⟩) (Nat.le_of_ble_eq_true rfl) (Nat.le_of_ble_eq_true rfl) dX0_findRoom_74
          · skip
            exact absurd c9 (n0_ne (by omega))
        | none =>
          have e3 : oi (hs_pk T n) = -1 := by rw [hk]; rfl
          rw [e3] at hl
          refine lv_iload_n C0.1.1 C0.1.2.1 dX0_findRoom_60 rfl (lv_at hl 3 rfl) ?_
          refine lv_iconst (v := (-1)) C0.1.1 C0.1.2.1 dX0_findRoom_61 (by decide) ?_
          refine lv_icmp_ne (tgt := 69) C0.1.1 C0.1.2.1 dX0_findRoom_62 (by decide) (fun c9 => ?_) (fun c9 => ?_)
          · skip
            exact absurd rfl c9
          · skip
            refine lv_iconst (v := (-1)) C0.1.1 C0.1.2.1 dX0_findRoom_65 (by decide) ?_
            refine lv_goto (tgt := 74) C0.1.1 C0.1.2.1 dX0_findRoom_66 (by decide) ?_
            exact gs_reti rk C0 hz (by rw [e9]; dsimp only; rw [hk]; exact ⟨hT1, rfl⟩) (Nat.le_of_ble_eq_true rfl) (Nat.le_of_ble_eq_true rfl) dX0_findRoom_74
      · rw [nI_leI (by omega) (by omega)] at c1
        obtain ⟨d', rfl⟩ : ∃ d', d = d' + 1 := ⟨d - 1, by omega⟩
        cases hk0 : hs_pk T n with
        | some k0 =>
          have e3 : oi (hs_pk T n) = nI k0 := by rw [hk0]; rfl
          have hok0 := hs_pk_ok hk0
          have hlenT0 := hT2.J.len
          have e9 : hs_room S n but = (T, hs_pk T n) := by rw [key, hs_rm, hk0]
          refine lv_iload_n C0.1.1 C0.1.2.1 dX0_findRoom_31 rfl (lv_at hl 3 rfl) ?_
          refine lv_iconst (v := (-1)) C0.1.1 C0.1.2.1 dX0_findRoom_32 (by decide) ?_
          refine lv_icmp_ne (tgt := 60) C0.1.1 C0.1.2.1 dX0_findRoom_33 (by decide) (fun c2 => ?_) (fun c2 => ?_)
          · skip
            cases hk : hs_pk T n with
            | some k =>
              have hok := hs_pk_ok hk
              have hlenT := hT2.J.len
              have e3 : oi (hs_pk T n) = nI k := by rw [hk]; rfl
              rw [e3] at hl
              refine lv_iload_n C0.1.1 C0.1.2.1 dX0_findRoom_60 rfl (lv_at hl 3 rfl) ?_
              refine lv_iconst (v := (-1)) C0.1.1 C0.1.2.1 dX0_findRoom_61 (by decide) ?_
              refine lv_icmp_ne (tgt := 69) C0.1.1 C0.1.2.1 dX0_findRoom_62 (by decide) (fun c9 => ?_) (fun c9 => ?_)
              · skip
                refine lv_aload_n C0.1.1 C0.1.2.1 dX0_findRoom_69 rfl (lv_at hl 0 rfl) ?_
                refine lv_iload_n C0.1.1 C0.1.2.1 dX0_findRoom_70 rfl (lv_at hl 3 rfl) ?_
                refine gs_callVi (w := xw G q) (wr := []) C0.1 (k_gapBegin l G q rk T hT1 hT2.J k hok.1) (cwV 1 C0.1.2.2.2.2 gX0_findRoom_X0_gapBegin rfl rfl rfl (by decide +kernel) ⟨Nat.le_of_ble_eq_true rfl, Nat.le_of_ble_eq_true rfl⟩) (ci := 0) rfl rfl rfl (gs_nil hz) rfl hl.1 rfl (Nat.le_of_ble_eq_true rfl) dX0_findRoom_71 ⟨Nat.le_of_ble_eq_true rfl, Nat.le_of_ble_eq_true rfl⟩ (fun res u9 H locs hp9 hz => ?_)
                replace hz := gs_unnil hz
                rw [hp9.1] at hz
                refine gs_eq (y := nI (hs_gb T k)) (hp9.2) ?_
                clear hp9
                exact gs_reti rk C0 hz (by rw [e9]; dsimp only; rw [hk]; exact ⟨hT1, rfl⟩) (Nat.le_of_ble_eq_true rfl) (Nat.le_of_ble_eq_true rfl) dX0_findRoom_74
              · skip
                exact absurd c9 (n0_ne (by omega))
            | none =>
              have e3 : oi (hs_pk T n) = -1 := by rw [hk]; rfl
              rw [e3] at hl
              refine lv_iload_n C0.1.1 C0.1.2.1 dX0_findRoom_60 rfl (lv_at hl 3 rfl) ?_
              refine lv_iconst (v := (-1)) C0.1.1 C0.1.2.1 dX0_findRoom_61 (by decide) ?_
              refine lv_icmp_ne (tgt := 69) C0.1.1 C0.1.2.1 dX0_findRoom_62 (by decide) (fun c9 => ?_) (fun c9 => ?_)
              · skip
                exact absurd rfl c9
              · skip
                refine lv_iconst (v := (-1)) C0.1.1 C0.1.2.1 dX0_findRoom_65 (by decide) ?_
                refine lv_goto (tgt := 74) C0.1.1 C0.1.2.1 dX0_findRoom_66 (by decide) ?_
                exact gs_reti rk C0 hz (by rw [e9]; dsimp only; rw [hk]; exact ⟨hT1, rfl⟩) (Nat.le_of_ble_eq_true rfl) (Nat.le_of_ble_eq_true rfl) dX0_findRoom_74
          · skip
            rw [e3] at c2
            exact absurd c2 (n0_ne (by omega))
        | none =>
          have e3 : oi (hs_pk T n) = -1 := by rw [hk0]; rfl
          refine lv_iload_n C0.1.1 C0.1.2.1 dX0_findRoom_31 rfl (lv_at hl 3 rfl) ?_
          refine lv_iconst (v := (-1)) C0.1.1 C0.1.2.1 dX0_findRoom_32 (by decide) ?_
          refine lv_icmp_ne (tgt := 60) C0.1.1 C0.1.2.1 dX0_findRoom_33 (by decide) (fun c2 => ?_) (fun c2 => ?_)
          · skip
            exact absurd e3 c2
          · skip
            refine lv_aload_n C0.1.1 C0.1.2.1 dX0_findRoom_36 rfl (lv_at hl 0 rfl) ?_
            refine lv_iload_n C0.1.1 C0.1.2.1 dX0_findRoom_37 rfl (lv_at hl 2 rfl) ?_
            refine gs_callVi (w := xw G q) (wr := []) C0.1 (k_giveUpFirst l G q rk T hT1 hT2.J but sp hsp) (cwV 1 C0.1.2.2.2.2 gX0_findRoom_X0_giveUpFirst rfl rfl rfl (by decide +kernel) ⟨Nat.le_of_ble_eq_true rfl, Nat.le_of_ble_eq_true rfl⟩) (ci := 0) rfl rfl rfl (gs_nil hz) rfl hl.1 rfl (Nat.le_of_ble_eq_true rfl) dX0_findRoom_38 ⟨Nat.le_of_ble_eq_true rfl, Nat.le_of_ble_eq_true rfl⟩ (fun res u H locs hp hz => ?_)
            replace hz := gs_unnil hz
            cases h1 : hs_l1 T but with
            | none =>
              rw [h1] at hp
              obtain ⟨hp1, hp2⟩ := hp
              rw [hp2] at hz
              refine gs_eq (y := nI 0) hp1 ?_
              have e9 : hs_room S n but = (T, hs_pk T n) := by rw [key, hs_rm, hk0]; dsimp only; rw [h1]
              refine lv_if_eq (tgt := 60) C0.1.1 C0.1.2.1 dX0_findRoom_41 (by decide) (fun c3 => ?_) (fun c3 => ?_)
              · rw [n0_eq (by omega)] at c3
                cases hk : hs_pk T n with
                | some k =>
                  have hok := hs_pk_ok hk
                  have hlenT := hT2.J.len
                  have e3 : oi (hs_pk T n) = nI k := by rw [hk]; rfl
                  rw [e3] at hl
                  refine lv_iload_n C0.1.1 C0.1.2.1 dX0_findRoom_60 rfl (lv_at hl 3 rfl) ?_
                  refine lv_iconst (v := (-1)) C0.1.1 C0.1.2.1 dX0_findRoom_61 (by decide) ?_
                  refine lv_icmp_ne (tgt := 69) C0.1.1 C0.1.2.1 dX0_findRoom_62 (by decide) (fun c9 => ?_) (fun c9 => ?_)
                  · skip
                    refine lv_aload_n C0.1.1 C0.1.2.1 dX0_findRoom_69 rfl (lv_at hl 0 rfl) ?_
                    refine lv_iload_n C0.1.1 C0.1.2.1 dX0_findRoom_70 rfl (lv_at hl 3 rfl) ?_
                    refine gs_callVi (w := xw G q) (wr := []) C0.1 (k_gapBegin l G q rk T hT1 hT2.J k hok.1) (cwV 1 C0.1.2.2.2.2 gX0_findRoom_X0_gapBegin rfl rfl rfl (by decide +kernel) ⟨Nat.le_of_ble_eq_true rfl, Nat.le_of_ble_eq_true rfl⟩) (ci := 0) rfl rfl rfl (gs_nil hz) rfl hl.1 rfl (Nat.le_of_ble_eq_true rfl) dX0_findRoom_71 ⟨Nat.le_of_ble_eq_true rfl, Nat.le_of_ble_eq_true rfl⟩ (fun res u9 H locs hp9 hz => ?_)
                    replace hz := gs_unnil hz
                    rw [hp9.1] at hz
                    refine gs_eq (y := nI (hs_gb T k)) (hp9.2) ?_
                    clear hp9
                    exact gs_reti rk C0 hz (by rw [e9]; dsimp only; rw [hk]; exact ⟨hT1, rfl⟩) (Nat.le_of_ble_eq_true rfl) (Nat.le_of_ble_eq_true rfl) dX0_findRoom_74
                  · skip
                    exact absurd c9 (n0_ne (by omega))
                | none =>
                  have e3 : oi (hs_pk T n) = -1 := by rw [hk]; rfl
                  rw [e3] at hl
                  refine lv_iload_n C0.1.1 C0.1.2.1 dX0_findRoom_60 rfl (lv_at hl 3 rfl) ?_
                  refine lv_iconst (v := (-1)) C0.1.1 C0.1.2.1 dX0_findRoom_61 (by decide) ?_
                  refine lv_icmp_ne (tgt := 69) C0.1.1 C0.1.2.1 dX0_findRoom_62 (by decide) (fun c9 => ?_) (fun c9 => ?_)
                  · skip
                    exact absurd rfl c9
                  · skip
                    refine lv_iconst (v := (-1)) C0.1.1 C0.1.2.1 dX0_findRoom_65 (by decide) ?_
                    refine lv_goto (tgt := 74) C0.1.1 C0.1.2.1 dX0_findRoom_66 (by decide) ?_
                    exact gs_reti rk C0 hz (by rw [e9]; dsimp only; rw [hk]; exact ⟨hT1, rfl⟩) (Nat.le_of_ble_eq_true rfl) (Nat.le_of_ble_eq_true rfl) dX0_findRoom_74
              · rw [n0_eq (by omega)] at c3
                exact absurd rfl c3
            | some x =>
              rw [h1] at hp
              obtain ⟨hp1, hp2⟩ := hp
              refine gs_eq (y := nI 1) hp1 ?_
              refine lv_if_eq (tgt := 60) C0.1.1 C0.1.2.1 dX0_findRoom_41 (by decide) (fun c3 => ?_) (fun c3 => ?_)
              · rw [n0_eq (by omega)] at c3
                exact absurd c3 (by decide)
              · rw [n0_eq (by omega)] at c3
                refine lv_aload_n C0.1.1 C0.1.2.1 dX0_findRoom_44 rfl (lv_at hl 0 rfl) ?_
                refine gs_callVv (w := xw G q) (wr := []) C0.1 (k_slideTogether l G q u _ hp2 (hs_gu_I hT2)) (cwV 0 C0.1.2.2.2.2 gX0_findRoom_X0_slideTogether rfl rfl rfl (by decide +kernel) ⟨Nat.le_of_ble_eq_true rfl, Nat.le_of_ble_eq_true rfl⟩) (ci := 0) rfl rfl rfl (gs_nil hz) rfl hl.1 rfl (Nat.le_of_ble_eq_true rfl) dX0_findRoom_45 ⟨Nat.le_of_ble_eq_true rfl, Nat.le_of_ble_eq_true rfl⟩ (fun u2 H locs hp hz => ?_)
                replace hz := gs_unnil hz
                refine lv_aload_n C0.1.1 C0.1.2.1 dX0_findRoom_48 rfl (lv_at hl 0 rfl) ?_
                refine lv_iload_n C0.1.1 C0.1.2.1 dX0_findRoom_49 rfl (lv_at hl 1 rfl) ?_
                refine gs_callVi (w := xw G q) (wr := []) C0.1 (k_firstGapOf l G q u2 (hs_sl (hs_gu T x)) hp (hs_sl_I (hs_gu_I hT2)).J n hn) (cwV 1 C0.1.2.2.2.2 gX0_findRoom_X0_firstGapOf rfl rfl rfl (by decide +kernel) ⟨Nat.le_of_ble_eq_true rfl, Nat.le_of_ble_eq_true rfl⟩) (ci := 0) rfl rfl rfl (gs_nil hz) rfl hl.1 rfl (Nat.le_of_ble_eq_true rfl) dX0_findRoom_50 ⟨Nat.le_of_ble_eq_true rfl, Nat.le_of_ble_eq_true rfl⟩ (fun res u9 H locs hp9 hz => ?_)
                replace hz := gs_unnil hz
                rw [hp9.1] at hz
                refine gs_eq (y := oi (hs_pk (hs_sl (hs_gu T x)) n)) (hp9.2) ?_
                clear hp9
                refine lv_istore_n (lv' := [(3, .int (oi (hs_pk (hs_sl (hs_gu T x)) n))), (0, .ref (q 0)), (1, .int (nI n)), (2, .int sp), (4, .int (nI (48 - (d' + 1))))]) C0.1.1 C0.1.2.1 dX0_findRoom_53 rfl hl (by decide) rfl (fun ls hl => ?_)
                refine lv_iinc (v := nI ((48 - (d' + 1)) + 1)) (lv' := [(4, .int (nI ((48 - (d' + 1)) + 1))), (3, .int (oi (hs_pk (hs_sl (hs_gu T x)) n))), (0, .ref (q 0)), (1, .int (nI n)), (2, .int sp)]) C0.1.1 C0.1.2.1 dX0_findRoom_54 hl (k := 4) rfl (nI_1 (48 - (d' + 1))) (by decide) rfl (fun ls hl => ?_)
                refine lv_goto (tgt := 24) C0.1.1 C0.1.2.1 dX0_findRoom_57 (by decide) ?_
                have hl : lv_has ls 5 [(0, .ref (q 0)), (1, .int (nI n)), (2, .int sp), (3, .int (oi (hs_pk (hs_sl (hs_gu T x)) n))), (4, .int (nI ((48 - (d' + 1)) + 1)))] := lv_sub hl [2, 3, 4, 1, 0] rfl
                have e5 : nI (48 - (d' + 1) + 1) = nI (48 - d') := by rw [show 48 - (d' + 1) + 1 = 48 - d' by omega]
                rw [e5] at hl
                exact ih d' (by omega) _ u2 ls _ _ hz (by omega) hp (hs_sl_I (hs_gu_I hT2)) (by rw [key, hs_rm, hk0]; dsimp only; rw [h1]) hl
  rcases op_cases (hs_pk S n) with ⟨k0, hk0⟩ | hk0
  · skip
    have hok0 := hs_pk_ok hk0
    have hlen0 := hI.J.len
    have e3 : oi (hs_pk S n) = nI k0 := by rw [hk0]; rfl
    have e4 : hs_room S n but = hs_rm n but 48 S := by unfold hs_room; rw [hk0]; show (S, some k0) = hs_rm n but (47 + 1) S; rw [hs_rm, hk0]
    refine lv_icmp_ne (tgt := 21) C0.1.1 C0.1.2.1 dX0_findRoom_8 (by decide) (fun c1 => ?_) (fun c1 => ?_)
    · skip
      refine lv_iconst (v := nI 0) C0.1.1 C0.1.2.1 dX0_findRoom_21 (by decide) ?_
      refine lv_istore (lv' := [(4, .int (nI 0)), (3, .int (oi (hs_pk S n))), (0, .ref (q 0)), (1, .int (nI n)), (2, .int sp)]) C0.1.1 C0.1.2.1 dX0_findRoom_22 hl (by decide) rfl (fun ls hl => ?_)
      have hl : lv_has ls 5 [(0, .ref (q 0)), (1, .int (nI n)), (2, .int sp), (3, .int (oi (hs_pk S n))), (4, .int (nI 0))] := lv_sub hl [2, 3, 4, 1, 0] rfl
      exact go24 48 S r ls _ _ hz (Nat.le_refl _) hS hI e4 hl
    · skip
      rw [e3] at c1
      exact absurd c1 (n0_ne (by omega))
  · skip
    have e3 : oi (hs_pk S n) = -1 := by rw [hk0]; rfl
    have e4 : hs_room S n but = hs_rm n but 48 (hs_sl S) := by unfold hs_room; rw [hk0]
    refine lv_icmp_ne (tgt := 21) C0.1.1 C0.1.2.1 dX0_findRoom_8 (by decide) (fun c1 => ?_) (fun c1 => ?_)
    · skip
      exact absurd e3 c1
    · skip
      refine lv_aload_n C0.1.1 C0.1.2.1 dX0_findRoom_11 rfl (lv_at hl 1 rfl) ?_
      refine gs_callVv (w := xw G q) (wr := []) C0.1 (k_slideTogether l G q r S hS hI) (cwV 0 C0.1.2.2.2.2 gX0_findRoom_X0_slideTogether rfl rfl rfl (by decide +kernel) ⟨Nat.le_of_ble_eq_true rfl, Nat.le_of_ble_eq_true rfl⟩) (ci := 0) rfl rfl rfl (gs_nil hz) rfl hl.1 rfl (Nat.le_of_ble_eq_true rfl) dX0_findRoom_12 ⟨Nat.le_of_ble_eq_true rfl, Nat.le_of_ble_eq_true rfl⟩ (fun u H locs hp hz => ?_)
      replace hz := gs_unnil hz
      refine lv_aload_n C0.1.1 C0.1.2.1 dX0_findRoom_15 rfl (lv_at hl 1 rfl) ?_
      refine lv_iload_n C0.1.1 C0.1.2.1 dX0_findRoom_16 rfl (lv_at hl 2 rfl) ?_
      refine gs_callVi (w := xw G q) (wr := []) C0.1 (k_firstGapOf l G q u (hs_sl S) hp (hs_sl_I hI).J n hn) (cwV 1 C0.1.2.2.2.2 gX0_findRoom_X0_firstGapOf rfl rfl rfl (by decide +kernel) ⟨Nat.le_of_ble_eq_true rfl, Nat.le_of_ble_eq_true rfl⟩) (ci := 0) rfl rfl rfl (gs_nil hz) rfl hl.1 rfl (Nat.le_of_ble_eq_true rfl) dX0_findRoom_17 ⟨Nat.le_of_ble_eq_true rfl, Nat.le_of_ble_eq_true rfl⟩ (fun res u9 H locs hp9 hz => ?_)
      replace hz := gs_unnil hz
      rw [hp9.1] at hz
      refine gs_eq (y := oi (hs_pk (hs_sl S) n)) (hp9.2) ?_
      clear hp9
      refine lv_istore_n (lv' := [(3, .int (oi (hs_pk (hs_sl S) n))), (0, .ref (q 0)), (1, .int (nI n)), (2, .int sp)]) C0.1.1 C0.1.2.1 dX0_findRoom_20 rfl hl (by decide) rfl (fun ls hl => ?_)
      refine lv_iconst (v := nI 0) C0.1.1 C0.1.2.1 dX0_findRoom_21 (by decide) ?_
      refine lv_istore (lv' := [(4, .int (nI 0)), (3, .int (oi (hs_pk (hs_sl S) n))), (0, .ref (q 0)), (1, .int (nI n)), (2, .int sp)]) C0.1.1 C0.1.2.1 dX0_findRoom_22 hl (by decide) rfl (fun ls hl => ?_)
      have hl : lv_has ls 5 [(0, .ref (q 0)), (1, .int (nI n)), (2, .int sp), (3, .int (oi (hs_pk (hs_sl S) n))), (4, .int (nI 0))] := lv_sub hl [2, 3, 4, 1, 0] rfl
      exact go24 48 (hs_sl S) u ls _ _ hz (Nat.le_refl _) hp (hs_sl_I hI) e4 hl
set_option maxHeartbeats 4000000 in
set_option maxRecDepth 100000 in
/-- makeBlock -/
theorem k_makeBlock (l : Launch) (G : gs_G) (q : Nat → Nat) (r : xr) (S : hs_S) (hS : rx S r) (hI : hs_I S) (h n : Nat) (fx : Bool) (hh : h < 48) (hu : hs_u S h ≠ 2) (hn1 : 1 ≤ n) (hn : n ≤ 1024) : gm_i l yX0_makeBlock wsX0_makeBlock (gm_rm 6 0 0) G (xw G q) r [.ref (q 0), .int (nI h), .int (nI n), .int (bI fx)] (fun res u => (∀ k, (hs_room S n 48).2 = some k → res = nI 1 ∧ rx (hs_mk (hs_room S n 48).1 h (hs_gb (hs_room S n 48).1 k) n fx) u) ∧ ((hs_room S n 48).2 = none → res = nI 0 ∧ rx (hs_room S n 48).1 u)) 0 0 := by
  refine gm_i.of (cc := cX0_makeBlock) (nL := 5) (ret := (some .boolean)) (by decide +kernel) rfl (Nat.le_of_ble_eq_true rfl) ?_
  intro p e s m args below meth c ls C0 hz hl
  have hin : ∀ w ∈ wsX00, w ∈ wsX0_makeBlock := by decide +kernel
  have l_bg : Cond.fieldLink RX0 13 "HandleHeap" "begin" "[I" ∈ wsX0_makeBlock := by decide +kernel
  have l_fx : Cond.fieldLink RX0 25 "HandleHeap" "isFixed" "[Z" ∈ wsX0_makeBlock := by decide +kernel
  have l_lk : Cond.fieldLink RX0 29 "HandleHeap" "isLocked" "[Z" ∈ wsX0_makeBlock := by decide +kernel
  have l_ls : Cond.fieldLink RX0 32 "HandleHeap" "isLosable" "[Z" ∈ wsX0_makeBlock := by decide +kernel
  have hl : lv_has ls 5 [(0, .ref (q 0)), (1, .int (nI h)), (2, .int (nI n)), (3, .int (bI fx))] := hl
  obtain ⟨hsm, hok⟩ := hs_room_ok hI n 48
  refine lv_aload_n C0.1.1 C0.1.2.1 dX0_makeBlock_0 rfl (lv_at hl 0 rfl) ?_
  refine lv_iload_n C0.1.1 C0.1.2.1 dX0_makeBlock_1 rfl (lv_at hl 2 rfl) ?_
  refine lv_iconst (v := (-1)) C0.1.1 C0.1.2.1 dX0_makeBlock_2 (by decide) ?_
  refine gs_callVi (w := xw G q) (wr := []) C0.1 (k_findRoom l G q r S hS hI n hn 48 (-1) (Or.inr ⟨rfl, rfl⟩)) (cwV 2 C0.1.2.2.2.2 gX0_makeBlock_X0_findRoom rfl rfl rfl (by decide +kernel) ⟨Nat.le_of_ble_eq_true rfl, Nat.le_of_ble_eq_true rfl⟩) (ci := 0) rfl rfl rfl (gs_nil hz) rfl hl.1 rfl (Nat.le_of_ble_eq_true rfl) dX0_makeBlock_3 ⟨Nat.le_of_ble_eq_true rfl, Nat.le_of_ble_eq_true rfl⟩ (fun res u H locs hp hz => ?_)
  replace hz := gs_unnil hz
  obtain ⟨T, eT⟩ : ∃ z, z = (hs_room S n 48).1 := ⟨_, rfl⟩
  obtain ⟨o, eo⟩ : ∃ z, z = (hs_room S n 48).2 := ⟨_, rfl⟩
  rw [← eT, ← eo] at hp hok
  rw [← eT] at hsm
  rw [← eT, ← eo]
  obtain ⟨hT, hres⟩ := hp
  have hIT := hsm.1
  have huT : hs_u T h ≠ 2 := by rw [hsm.2.1 h hh hu]; exact hu
  have hnT : hs_n T h = 0 := (hIT.2.2 h hh huT).1
  cases o with
  | none =>
    refine gs_eq (y := -1) hres ?_
    refine lv_istore (lv' := [(4, .int (-1)), (0, .ref (q 0)), (1, .int (nI h)), (2, .int (nI n)), (3, .int (bI fx))]) C0.1.1 C0.1.2.1 dX0_makeBlock_6 hl (by decide) rfl (fun ls hl => ?_)
    refine lv_iload C0.1.1 C0.1.2.1 dX0_makeBlock_8 (lv_at hl 0 rfl) ?_
    refine lv_iconst (v := (-1)) C0.1.1 C0.1.2.1 dX0_makeBlock_10 (by decide) ?_
    refine lv_icmp_ne (tgt := 16) C0.1.1 C0.1.2.1 dX0_makeBlock_11 (by decide) (fun c1 => ?_) (fun c1 => ?_)
    · skip
      exact absurd rfl c1
    · skip
      refine lv_iconst (v := nI 0) C0.1.1 C0.1.2.1 dX0_makeBlock_14 (by decide) ?_
      exact gs_retz u C0 hz (by decide) (⟨fun k z => (by cases z), fun _ => ⟨rfl, hT⟩⟩) (Nat.le_of_ble_eq_true rfl) (Nat.le_of_ble_eq_true rfl) dX0_makeBlock_15
  | some k =>
    obtain ⟨hk1, hk2⟩ := hok k rfl
    have hend := hs_gap_e hIT hk1 hk2
    have hd := hs_gap_d hIT hk1 hk2
    obtain ⟨a, ea⟩ : ∃ z, z = hs_gb T k := ⟨_, rfl⟩
    rw [← ea] at hend hd
    refine gs_eq (y := nI a) (by rw [hres, ea]; rfl) ?_
    refine lv_istore (lv' := [(4, .int (nI a)), (0, .ref (q 0)), (1, .int (nI h)), (2, .int (nI n)), (3, .int (bI fx))]) C0.1.1 C0.1.2.1 dX0_makeBlock_6 hl (by decide) rfl (fun ls hl => ?_)
    refine lv_iload C0.1.1 C0.1.2.1 dX0_makeBlock_8 (lv_at hl 0 rfl) ?_
    refine lv_iconst (v := (-1)) C0.1.1 C0.1.2.1 dX0_makeBlock_10 (by decide) ?_
    refine lv_icmp_ne (tgt := 16) C0.1.1 C0.1.2.1 dX0_makeBlock_11 (by decide) (fun c1 => ?_) (fun c1 => ?_)
    · skip
      refine lv_aload_n C0.1.1 C0.1.2.1 dX0_makeBlock_16 rfl (lv_at hl 1 rfl) ?_
      refine xg_bg C0 hin hz l_bg dX0_makeBlock_17 ?_
      refine lv_iload_n C0.1.1 C0.1.2.1 dX0_makeBlock_20 rfl (lv_at hl 2 rfl) ?_
      refine lv_iload C0.1.1 C0.1.2.1 dX0_makeBlock_21 (lv_at hl 0 rfl) ?_
      refine xt_bg C0 hz h (by omega) rfl dX0_makeBlock_23 (fun H locs hz => ?_)
      have hz : gs_Z G (xw G q (xs_bg u (upd (x_bg u) h (nI a)))) _ s H locs := hz
      obtain ⟨r1, er1⟩ : ∃ z, z = xs_bg u (upd (x_bg u) h (nI a)) := ⟨_, rfl⟩
      rw [← er1] at hz
      refine lv_aload_n C0.1.1 C0.1.2.1 dX0_makeBlock_24 rfl (lv_at hl 1 rfl) ?_
      refine lv_iload_n C0.1.1 C0.1.2.1 dX0_makeBlock_25 rfl (lv_at hl 2 rfl) ?_
      refine lv_iload_n C0.1.1 C0.1.2.1 dX0_makeBlock_26 rfl (lv_at hl 3 rfl) ?_
      refine gs_callVv (w := xw G q) (wr := []) C0.1 (k_setLength l G q r1 h a 0 n hh (by rw [er1]; exact pk_us) (by rw [er1]; show x_ln u h = nI 0; rw [hT.2.1 h hh, hnT]) (by omega) hend) (cwV 2 C0.1.2.2.2.2 gX0_makeBlock_X0_setLength rfl rfl rfl (by decide +kernel) ⟨Nat.le_of_ble_eq_true rfl, Nat.le_of_ble_eq_true rfl⟩) (ci := 0) rfl rfl rfl (gs_nil hz) rfl hl.1 rfl (Nat.le_of_ble_eq_true rfl) dX0_makeBlock_27 ⟨Nat.le_of_ble_eq_true rfl, Nat.le_of_ble_eq_true rfl⟩ (fun r2 H locs hp hz => ?_)
      replace hz := gs_unnil hz
      refine lv_aload_n C0.1.1 C0.1.2.1 dX0_makeBlock_30 rfl (lv_at hl 1 rfl) ?_
      refine xg_fx C0 hin hz l_fx dX0_makeBlock_31 ?_
      refine lv_iload_n C0.1.1 C0.1.2.1 dX0_makeBlock_34 rfl (lv_at hl 2 rfl) ?_
      refine lv_iload_n C0.1.1 C0.1.2.1 dX0_makeBlock_35 rfl (lv_at hl 4 rfl) ?_
      refine xt_fx C0 hz h (by omega) rfl (bI_nar _) dX0_makeBlock_36 (fun H locs hz => ?_)
      refine lv_aload_n C0.1.1 C0.1.2.1 dX0_makeBlock_37 rfl (lv_at hl 1 rfl) ?_
      refine xg_lk C0 hin hz l_lk dX0_makeBlock_38 ?_
      refine lv_iload_n C0.1.1 C0.1.2.1 dX0_makeBlock_41 rfl (lv_at hl 2 rfl) ?_
      refine lv_iconst (v := nI 0) C0.1.1 C0.1.2.1 dX0_makeBlock_42 (by decide) ?_
      refine xt_lk C0 hz h (by omega) rfl (by decide) dX0_makeBlock_43 (fun H locs hz => ?_)
      refine lv_aload_n C0.1.1 C0.1.2.1 dX0_makeBlock_44 rfl (lv_at hl 1 rfl) ?_
      refine xg_ls C0 hin hz l_ls dX0_makeBlock_45 ?_
      refine lv_iload_n C0.1.1 C0.1.2.1 dX0_makeBlock_48 rfl (lv_at hl 2 rfl) ?_
      refine lv_iconst (v := nI 0) C0.1.1 C0.1.2.1 dX0_makeBlock_49 (by decide) ?_
      refine xt_ls C0 hz h (by omega) rfl (by decide) dX0_makeBlock_50 (fun H locs hz => ?_)
      have hout := hIT.out huT
      have hne : ∀ x, x ∈ hs_R T → x ≠ h := fun x hx e => hout (by rw [← e]; exact hx)
      obtain ⟨r3, er3⟩ : ∃ z, z = xs_ls (xs_lk (xs_fx r2 (upd (x_fx r2) h (bI fx))) (upd (x_lk r2) h (nI 0))) (upd (x_ls r2) h (nI 0)) := ⟨_, rfl⟩
      have hz : gs_Z G (xw G q r3) (va_A (xw G q r) s.heap.size) s H locs := by rw [er3]; exact hz
      refine lv_aload_n C0.1.1 C0.1.2.1 dX0_makeBlock_51 rfl (lv_at hl 1 rfl) ?_
      refine lv_iload_n C0.1.1 C0.1.2.1 dX0_makeBlock_52 rfl (lv_at hl 2 rfl) ?_
      have hA : ∀ x ∈ hs_R T, x < 48 ∧ x_bg r3 x = nI (va_up (hs_b T) h a x) ∧ va_up (hs_b T) h a x ≤ 1024 := by
        intro x hx
        have hx2 := (hIT.2.1 x).mp hx
        rw [er3, hp, er1, va_up_ne _ _ (hne x hx)]
        refine ⟨hx2.1, ?_, hIT.b2 hx2.1 hx2.2⟩
        show upd (x_bg u) h (nI a) x = nI (hs_b T x)
        rw [pk_un (hne x hx)]
        exact (hT.1 x hx2.1).trans (xb_2 hx2.2)
      have hB : x_bg r3 h = nI (va_up (hs_b T) h a h) ∧ va_up (hs_b T) h a h ≤ 1024 := by
        rw [er3, hp, er1, va_up_self]
        refine ⟨?_, by omega⟩
        show upd (x_bg u) h (nI a) h = nI a
        exact pk_us
      have hC : ∀ i j, i < j → j < (hs_R T).length → va_up (hs_b T) h a (hg_at (hs_R T) i) ≤ va_up (hs_b T) h a (hg_at (hs_R T) j) := by
        intro i j hij hj
        rw [va_up_ne _ _ (hne _ (hg_at_mem (by omega))), va_up_ne _ _ (hne _ (hg_at_mem hj))]
        have := hg_ord hIT.1 hij hj
        omega
      have hp2 := hp
      refine gs_callVv (w := xw G q) (wr := []) C0.1 (k_enterRow l G q r3 (hs_R T) (va_up (hs_b T) h a) (by rw [er3, hp, er1]; exact hT.2.2.2.1) (hIT.len47 hh hout) hA hC h hh hB) (cwV 1 C0.1.2.2.2.2 gX0_makeBlock_X0_enterRow rfl rfl rfl (by decide +kernel) ⟨Nat.le_of_ble_eq_true rfl, Nat.le_of_ble_eq_true rfl⟩) (ci := 0) rfl rfl rfl (gs_nil hz) rfl hl.1 rfl (Nat.le_of_ble_eq_true rfl) dX0_makeBlock_53 ⟨Nat.le_of_ble_eq_true rfl, Nat.le_of_ble_eq_true rfl⟩ (fun r4 H locs hp hz => ?_)
      replace hz := gs_unnil hz
      refine lv_iconst (v := nI 1) C0.1.1 C0.1.2.1 dX0_makeBlock_56 (by decide) ?_
      exact gs_retz r4 C0 hz (by decide) (⟨fun k' z => by cases z; obtain ⟨w, e4, hw⟩ := hp; refine ⟨rfl, ?_⟩; rw [← ea, e4, er3, hp2, er1]; exact rx_mk hT hh huT hnT hd hw, fun z => by cases z⟩) (Nat.le_of_ble_eq_true rfl) (Nat.le_of_ble_eq_true rfl) dX0_makeBlock_57
    · skip
      exact absurd c1 (n0_ne (by omega))
set_option maxHeartbeats 4000000 in
set_option maxRecDepth 100000 in
/-- growElsewhere -/
theorem k_growElsewhere (l : Launch) (G : gs_G) (q : Nat → Nat) (r : xr) (S : hs_S) (hS : rx S r) (hI : hs_I S) (h n : Nat) (hh : h < 48) (hu : hs_u S h = 2) (hn1 : hs_n S h ≤ n) (hn : n ≤ 1024) : gm_i l yX0_growElsewhere wsX0_growElsewhere (gm_rm 6 0 0) G (xw G q) r [.ref (q 0), .int (nI h), .int (nI n)] (fun res u => (∀ k, (hs_room S n h).2 = some k → res = nI 1 ∧ rx (hs_gr (hs_room S n h).1 h (hs_gb (hs_room S n h).1 k) n) u) ∧ ((hs_room S n h).2 = none → res = nI 0 ∧ rx (hs_room S n h).1 u)) 0 0 := by
  refine gm_i.of (cc := cX0_growElsewhere) (nL := 4) (ret := (some .boolean)) (by decide +kernel) rfl (Nat.le_of_ble_eq_true rfl) ?_
  intro p e s m args below meth c ls C0 hz hl
  have hl : lv_has ls 4 [(0, .ref (q 0)), (1, .int (nI h)), (2, .int (nI n))] := hl
  obtain ⟨hsm, hok⟩ := hs_room_ok hI n h
  refine lv_aload_n C0.1.1 C0.1.2.1 dX0_growElsewhere_0 rfl (lv_at hl 0 rfl) ?_
  refine lv_iload_n C0.1.1 C0.1.2.1 dX0_growElsewhere_1 rfl (lv_at hl 2 rfl) ?_
  refine lv_iload_n C0.1.1 C0.1.2.1 dX0_growElsewhere_2 rfl (lv_at hl 1 rfl) ?_
  refine gs_callVi (w := xw G q) (wr := []) C0.1 (k_findRoom l G q r S hS hI n hn h (nI h) (Or.inl ⟨hh, rfl⟩)) (cwV 2 C0.1.2.2.2.2 gX0_growElsewhere_X0_findRoom rfl rfl rfl (by decide +kernel) ⟨Nat.le_of_ble_eq_true rfl, Nat.le_of_ble_eq_true rfl⟩) (ci := 0) rfl rfl rfl (gs_nil hz) rfl hl.1 rfl (Nat.le_of_ble_eq_true rfl) dX0_growElsewhere_3 ⟨Nat.le_of_ble_eq_true rfl, Nat.le_of_ble_eq_true rfl⟩ (fun res u H locs hp hz => ?_)
  replace hz := gs_unnil hz
  obtain ⟨T, eT⟩ : ∃ z, z = (hs_room S n h).1 := ⟨_, rfl⟩
  obtain ⟨o, eo⟩ : ∃ z, z = (hs_room S n h).2 := ⟨_, rfl⟩
  rw [← eT, ← eo] at hp hok
  rw [← eT] at hsm
  rw [← eT, ← eo]
  obtain ⟨hT, hres⟩ := hp
  have hIT := hsm.1
  obtain ⟨huT, hnT⟩ := hsm.2.2 hh hu
  cases o with
  | none =>
    refine gs_eq (y := -1) hres ?_
    refine lv_istore_n (lv' := [(3, .int (-1)), (0, .ref (q 0)), (1, .int (nI h)), (2, .int (nI n))]) C0.1.1 C0.1.2.1 dX0_growElsewhere_6 rfl hl (by decide) rfl (fun ls hl => ?_)
    refine lv_iload_n C0.1.1 C0.1.2.1 dX0_growElsewhere_7 rfl (lv_at hl 0 rfl) ?_
    refine lv_iconst (v := (-1)) C0.1.1 C0.1.2.1 dX0_growElsewhere_8 (by decide) ?_
    refine lv_icmp_ne (tgt := 14) C0.1.1 C0.1.2.1 dX0_growElsewhere_9 (by decide) (fun c1 => ?_) (fun c1 => ?_)
    · skip
      exact absurd rfl c1
    · skip
      refine lv_iconst (v := nI 0) C0.1.1 C0.1.2.1 dX0_growElsewhere_12 (by decide) ?_
      exact gs_retz u C0 hz (by decide) (⟨fun k z => (by cases z), fun _ => ⟨rfl, hT⟩⟩) (Nat.le_of_ble_eq_true rfl) (Nat.le_of_ble_eq_true rfl) dX0_growElsewhere_13
  | some k =>
    obtain ⟨hk1, hk2⟩ := hok k rfl
    have hend := hs_gap_e hIT hk1 hk2
    have hd := hs_gap_d hIT hk1 hk2
    have hbn := hIT.bn hh huT
    obtain ⟨a, ea⟩ : ∃ z, z = hs_gb T k := ⟨_, rfl⟩
    rw [← ea] at hend hd
    have hne : a ≠ hs_b T h := fun z => by have := hd h hh huT; omega
    refine gs_eq (y := nI a) (by rw [hres, ea]; rfl) ?_
    refine lv_istore_n (lv' := [(3, .int (nI a)), (0, .ref (q 0)), (1, .int (nI h)), (2, .int (nI n))]) C0.1.1 C0.1.2.1 dX0_growElsewhere_6 rfl hl (by decide) rfl (fun ls hl => ?_)
    refine lv_iload_n C0.1.1 C0.1.2.1 dX0_growElsewhere_7 rfl (lv_at hl 0 rfl) ?_
    refine lv_iconst (v := (-1)) C0.1.1 C0.1.2.1 dX0_growElsewhere_8 (by decide) ?_
    refine lv_icmp_ne (tgt := 14) C0.1.1 C0.1.2.1 dX0_growElsewhere_9 (by decide) (fun c1 => ?_) (fun c1 => ?_)
    · skip
      refine lv_aload_n C0.1.1 C0.1.2.1 dX0_growElsewhere_14 rfl (lv_at hl 1 rfl) ?_
      refine lv_iload_n C0.1.1 C0.1.2.1 dX0_growElsewhere_15 rfl (lv_at hl 2 rfl) ?_
      refine gs_callVv (w := xw G q) (wr := []) C0.1 (k_leaveRow l G q u (hs_R T) hT.2.2.2.1 hIT.J.len (fun x hx => (hIT.J.2 x hx).1) h hh) (cwV 1 C0.1.2.2.2.2 gX0_growElsewhere_X0_leaveRow rfl rfl rfl (by decide +kernel) ⟨Nat.le_of_ble_eq_true rfl, Nat.le_of_ble_eq_true rfl⟩) (ci := 0) rfl rfl rfl (gs_nil hz) rfl hl.1 rfl (Nat.le_of_ble_eq_true rfl) dX0_growElsewhere_16 ⟨Nat.le_of_ble_eq_true rfl, Nat.le_of_ble_eq_true rfl⟩ (fun r1 H locs hp hz => ?_)
      replace hz := gs_unnil hz
      obtain ⟨w1, e1, hw1⟩ := hp
      refine lv_aload_n C0.1.1 C0.1.2.1 dX0_growElsewhere_19 rfl (lv_at hl 1 rfl) ?_
      refine lv_iload_n C0.1.1 C0.1.2.1 dX0_growElsewhere_20 rfl (lv_at hl 2 rfl) ?_
      refine lv_iload_n C0.1.1 C0.1.2.1 dX0_growElsewhere_21 rfl (lv_at hl 0 rfl) ?_
      refine gs_callVv (w := xw G q) (wr := []) C0.1 (k_moveTo l G q r1 h (hs_b T h) (hs_n T h) a hh (by rw [e1]; exact (hT.1 h hh).trans (xb_2 huT)) (by rw [e1]; exact hT.2.1 h hh) hbn.1 (by omega)) (cwV 2 C0.1.2.2.2.2 gX0_growElsewhere_X0_moveTo rfl rfl rfl (by decide +kernel) ⟨Nat.le_of_ble_eq_true rfl, Nat.le_of_ble_eq_true rfl⟩) (ci := 0) rfl rfl rfl (gs_nil hz) rfl hl.1 rfl (Nat.le_of_ble_eq_true rfl) dX0_growElsewhere_22 ⟨Nat.le_of_ble_eq_true rfl, Nat.le_of_ble_eq_true rfl⟩ (fun r2 H locs hp hz => ?_)
      replace hz := gs_unnil hz
      have e2 := hp
      clear hp
      have hno : ∀ x, x ∈ hg_out (hs_R T) h → x ≠ h := fun x hx => (hg_out_mem.mp hx).2
      refine lv_aload_n C0.1.1 C0.1.2.1 dX0_growElsewhere_25 rfl (lv_at hl 1 rfl) ?_
      refine lv_iload_n C0.1.1 C0.1.2.1 dX0_growElsewhere_26 rfl (lv_at hl 2 rfl) ?_
      have hA : ∀ x ∈ hg_out (hs_R T) h, x < 48 ∧ x_bg r2 x = nI (va_up (hs_b T) h a x) ∧ va_up (hs_b T) h a x ≤ 1024 := by
        intro x hx
        have hx2 := (hIT.2.1 x).mp (hg_out_mem.mp hx).1
        rw [e2, if_neg hne, e1, va_up_ne _ _ (hno x hx)]
        refine ⟨hx2.1, ?_, hIT.b2 hx2.1 hx2.2⟩
        show upd (x_bg u) h (nI a) x = nI (hs_b T x)
        rw [pk_un (hno x hx)]
        exact (hT.1 x hx2.1).trans (xb_2 hx2.2)
      have hB : x_bg r2 h = nI (va_up (hs_b T) h a h) ∧ va_up (hs_b T) h a h ≤ 1024 := by
        rw [e2, if_neg hne, e1, va_up_self]
        refine ⟨?_, by omega⟩
        show upd (x_bg u) h (nI a) h = nI a
        exact pk_us
      have hC : ∀ i j, i < j → j < (hg_out (hs_R T) h).length → va_up (hs_b T) h a (hg_at (hg_out (hs_R T) h) i) ≤ va_up (hs_b T) h a (hg_at (hg_out (hs_R T) h) j) := by
        intro i j hij hj
        rw [va_up_ne _ _ (hno _ (hg_at_mem (by omega))), va_up_ne _ _ (hno _ (hg_at_mem hj))]
        have := hg_ord (hg_I_out (h := h) hIT.1) hij hj
        omega
      refine gs_callVv (w := xw G q) (wr := []) C0.1 (k_enterRow l G q r2 (hg_out (hs_R T) h) (va_up (hs_b T) h a) (by rw [e2, if_neg hne, e1]; exact ⟨rfl, hw1⟩) (hs_out_len hIT hh) hA hC h hh hB) (cwV 1 C0.1.2.2.2.2 gX0_growElsewhere_X0_enterRow rfl rfl rfl (by decide +kernel) ⟨Nat.le_of_ble_eq_true rfl, Nat.le_of_ble_eq_true rfl⟩) (ci := 0) rfl rfl rfl (gs_nil hz) rfl hl.1 rfl (Nat.le_of_ble_eq_true rfl) dX0_growElsewhere_27 ⟨Nat.le_of_ble_eq_true rfl, Nat.le_of_ble_eq_true rfl⟩ (fun r3 H locs hp hz => ?_)
      replace hz := gs_unnil hz
      obtain ⟨w2, e3, hw2⟩ := hp
      refine lv_aload_n C0.1.1 C0.1.2.1 dX0_growElsewhere_30 rfl (lv_at hl 1 rfl) ?_
      refine lv_iload_n C0.1.1 C0.1.2.1 dX0_growElsewhere_31 rfl (lv_at hl 2 rfl) ?_
      refine lv_iload_n C0.1.1 C0.1.2.1 dX0_growElsewhere_32 rfl (lv_at hl 3 rfl) ?_
      refine gs_callVv (w := xw G q) (wr := []) C0.1 (k_setLength l G q r3 h a (hs_n T h) n hh (by rw [e3, e2, if_neg hne]; exact pk_us) (by rw [e3, e2, if_neg hne, e1]; exact hT.2.1 h hh) (by omega) hend) (cwV 2 C0.1.2.2.2.2 gX0_growElsewhere_X0_setLength rfl rfl rfl (by decide +kernel) ⟨Nat.le_of_ble_eq_true rfl, Nat.le_of_ble_eq_true rfl⟩) (ci := 0) rfl rfl rfl (gs_nil hz) rfl hl.1 rfl (Nat.le_of_ble_eq_true rfl) dX0_growElsewhere_33 ⟨Nat.le_of_ble_eq_true rfl, Nat.le_of_ble_eq_true rfl⟩ (fun r4 H locs hp hz => ?_)
      replace hz := gs_unnil hz
      refine lv_iconst (v := nI 1) C0.1.1 C0.1.2.1 dX0_growElsewhere_36 (by decide) ?_
      exact gs_retz r4 C0 hz (by decide) (⟨fun k' z => (by cases z; refine ⟨rfl, ?_⟩; rw [← ea, hp]; exact rx_gr hT hh huT hne (by omega) (fun g hg _ hug => hd g hg hug) e1 e2 e3 hw2), fun z => (by cases z)⟩) (Nat.le_of_ble_eq_true rfl) (Nat.le_of_ble_eq_true rfl) dX0_growElsewhere_37
    · skip
      exact absurd c1 (n0_ne (by omega))
set_option maxHeartbeats 4000000 in
set_option maxRecDepth 100000 in
/-- freeBehind -/
theorem k_freeBehind (l : Launch) (G : gs_G) (q : Nat → Nat) (r : xr) (S : hs_S) (hS : rx S r) (hJ : hs_J S) (k0 : Nat) (hk0 : k0 < (hs_R S).length) : gm_i l yX0_freeBehind wsX0_freeBehind (gm_rm 4 0 0) G (xw G q) r [.ref (q 0), .int (nI (hg_at (hs_R S) k0))] (fun res u => u = r ∧ res = nI (hs_gl S (k0 + 1))) 0 0 := by
  refine gm_i.of (cc := cX0_freeBehind) (nL := 3) (ret := (some .int)) (by decide +kernel) rfl (Nat.le_of_ble_eq_true rfl) ?_
  intro p e s m args below meth c ls C0 hz hl
  have hin : ∀ w ∈ wsX00, w ∈ wsX0_freeBehind := by decide +kernel
  have l_nb : Cond.fieldLink RX0 38 "HandleHeap" "blocks" "I" ∈ wsX0_freeBehind := by decide +kernel
  have l_rw : Cond.fieldLink RX0 35 "HandleHeap" "row" "[I" ∈ wsX0_freeBehind := by decide +kernel
  have hl : lv_has ls 3 [(0, .ref (q 0)), (1, .int (nI (hg_at (hs_R S) k0)))] := hl
  have hlen := hJ.len
  have hat0 := hJ.at hk0
  refine lv_iconst (v := nI 0) C0.1.1 C0.1.2.1 dX0_freeBehind_0 (by decide) ?_
  refine lv_istore_n (lv' := [(2, .int (nI 0)), (0, .ref (q 0)), (1, .int (nI (hg_at (hs_R S) k0)))]) C0.1.1 C0.1.2.1 dX0_freeBehind_1 rfl hl (by decide) rfl (fun ls hl => ?_)
  have hl : lv_has ls 3 [(0, .ref (q 0)), (1, .int (nI (hg_at (hs_R S) k0))), (2, .int (nI 0))] := lv_sub hl [1, 2, 0] rfl
  refine (?loop : ∀ (d k : Nat) (ls : Array Slot) (H : Heap) (locs : List Loc), gs_Z G (xw G q r) _ s H locs → k + d = k0 → lv_has ls 3 [(0, .ref (q 0)), (1, .int (nI (hg_at (hs_R S) k0))), (2, .int (nI k))] → W p l e _ s m args below meth c H locs 0 0 _ (F0 m 2 ls [])) k0 0 ls _ _ hz (Nat.zero_add _) hl
  intro d
  induction d using Nat.strongRecOn with
  | _ d ih =>
    intro k ls H locs hz hd hl
    refine lv_iload_n C0.1.1 C0.1.2.1 dX0_freeBehind_2 rfl (lv_at hl 2 rfl) ?_
    refine lv_aload_n C0.1.1 C0.1.2.1 dX0_freeBehind_3 rfl (lv_at hl 0 rfl) ?_
    refine xg_nb C0 hin hz l_nb dX0_freeBehind_4 ?_
    refine gs_eq (y := nI ((hs_R S).length)) (hS.2.2.2.1.1) ?_
    refine lv_icmp_ge (tgt := 34) C0.1.1 C0.1.2.1 dX0_freeBehind_7 (by decide) (fun c1 => ?_) (fun c1 => ?_)
    · rw [nI_leI (by omega) (by omega)] at c1
      exact absurd c1 (by omega)
    · rw [nI_leI (by omega) (by omega)] at c1
      have hk1 : k < (hs_R S).length := by omega
      have hat := hJ.at hk1
      refine lv_aload_n C0.1.1 C0.1.2.1 dX0_freeBehind_10 rfl (lv_at hl 0 rfl) ?_
      refine xg_rw C0 hin hz l_rw dX0_freeBehind_11 ?_
      refine lv_iload_n C0.1.1 C0.1.2.1 dX0_freeBehind_14 rfl (lv_at hl 2 rfl) ?_
      refine xl_rw C0 hz k (by omega) rfl dX0_freeBehind_15 ?_
      refine gs_eq (y := nI (hg_at (hs_R S) k)) (hS.2.2.2.1.2 _ hk1) ?_
      refine lv_iload_n C0.1.1 C0.1.2.1 dX0_freeBehind_16 rfl (lv_at hl 1 rfl) ?_
      refine lv_icmp_ne (tgt := 28) C0.1.1 C0.1.2.1 dX0_freeBehind_17 (by decide) (fun c2 => ?_) (fun c2 => ?_)
      · rw [nI_eq (by omega) (by omega)] at c2
        have hne : k ≠ k0 := fun e => c2 (by rw [e])
        refine lv_iinc (v := nI (k + 1)) (lv' := [(2, .int (nI (k + 1))), (0, .ref (q 0)), (1, .int (nI (hg_at (hs_R S) k0)))]) C0.1.1 C0.1.2.1 dX0_freeBehind_28 hl (k := 2) rfl (nI_1 k) (by decide) rfl (fun ls hl => ?_)
        refine lv_goto (tgt := 2) C0.1.1 C0.1.2.1 dX0_freeBehind_31 (by decide) ?_
        have hl : lv_has ls 3 [(0, .ref (q 0)), (1, .int (nI (hg_at (hs_R S) k0))), (2, .int (nI (k + 1)))] := lv_sub hl [1, 2, 0] rfl
        exact ih (d - 1) (by omega) (k + 1) ls _ _ hz (by omega) hl
      · rw [nI_eq (by omega) (by omega)] at c2
        obtain rfl : k = k0 := hg_inj hJ.1 hk1 hk0 c2
        refine lv_aload_n C0.1.1 C0.1.2.1 dX0_freeBehind_20 rfl (lv_at hl 0 rfl) ?_
        refine lv_iload_n C0.1.1 C0.1.2.1 dX0_freeBehind_21 rfl (lv_at hl 2 rfl) ?_
        refine lv_iconst (v := nI 1) C0.1.1 C0.1.2.1 dX0_freeBehind_22 (by decide) ?_
        refine lv_iadd C0.1.1 C0.1.2.1 dX0_freeBehind_23 ?_
        refine gs_eq (nI_add k 1) ?_
        refine gs_callVi (w := xw G q) (wr := []) C0.1 (k_gapLength l G q r S hS hJ (k + 1) (by omega)) (cwV 1 C0.1.2.2.2.2 gX0_freeBehind_X0_gapLength rfl rfl rfl (by decide +kernel) ⟨Nat.le_of_ble_eq_true rfl, Nat.le_of_ble_eq_true rfl⟩) (ci := 0) rfl rfl rfl (gs_nil hz) rfl hl.1 rfl (Nat.le_of_ble_eq_true rfl) dX0_freeBehind_24 ⟨Nat.le_of_ble_eq_true rfl, Nat.le_of_ble_eq_true rfl⟩ (fun res u9 H locs hp9 hz => ?_)
        replace hz := gs_unnil hz
        rw [hp9.1] at hz
        refine gs_eq (y := nI (hs_gl S (k + 1))) (hp9.2) ?_
        clear hp9
        exact gs_reti r C0 hz (⟨rfl, rfl⟩) (Nat.le_of_ble_eq_true rfl) (Nat.le_of_ble_eq_true rfl) dX0_freeBehind_27
set_option maxHeartbeats 4000000 in
set_option maxRecDepth 100000 in
/-- leastUnused -/
theorem k_leastUnused (l : Launch) (G : gs_G) (q : Nat → Nat) (r : xr) (S : hs_S) (hS : rx S r) (hI : hs_I S) : gm_i l yX0_leastUnused wsX0_leastUnused (gm_rm 1 0 0) G (xw G q) r [.ref (q 0)] (fun res u => u = r ∧ res = oi (hs_lu (hs_u S) 0 48)) 0 0 := by
  refine gm_i.of (cc := cX0_leastUnused) (nL := 2) (ret := (some .int)) (by decide +kernel) rfl (Nat.le_of_ble_eq_true rfl) ?_
  intro p e s m args below meth c ls C0 hz hl
  have hin : ∀ w ∈ wsX00, w ∈ wsX0_leastUnused := by decide +kernel
  have l_bg : Cond.fieldLink RX0 13 "HandleHeap" "begin" "[I" ∈ wsX0_leastUnused := by decide +kernel
  have hl : lv_has ls 2 [(0, .ref (q 0))] := hl
  refine lv_iconst (v := nI 0) C0.1.1 C0.1.2.1 dX0_leastUnused_0 (by decide) ?_
  refine lv_istore_n (lv' := [(1, .int (nI 0)), (0, .ref (q 0))]) C0.1.1 C0.1.2.1 dX0_leastUnused_1 rfl hl (by decide) rfl (fun ls hl => ?_)
  have hl : lv_has ls 2 [(0, .ref (q 0)), (1, .int (nI 0))] := lv_sub hl [1, 0] rfl
  refine (?loop : ∀ (d k : Nat) (ls : Array Slot) (H : Heap) (locs : List Loc), gs_Z G (xw G q r) _ s H locs → k + d = 48 → hs_lu (hs_u S) 0 48 = hs_lu (hs_u S) k d → lv_has ls 2 [(0, .ref (q 0)), (1, .int (nI k))] → W p l e _ s m args below meth c H locs 0 0 _ (F0 m 2 ls [])) 48 0 ls _ _ hz (Nat.zero_add _) rfl hl
  intro d
  induction d using Nat.strongRecOn with
  | _ d ih =>
    intro k ls H locs hz hd key hl
    refine lv_iload_n C0.1.1 C0.1.2.1 dX0_leastUnused_2 rfl (lv_at hl 1 rfl) ?_
    refine lv_bipush (v := nI 48) C0.1.1 C0.1.2.1 dX0_leastUnused_3 (by decide) ?_
    refine lv_icmp_ge (tgt := 26) C0.1.1 C0.1.2.1 dX0_leastUnused_5 (by decide) (fun c1 => ?_) (fun c1 => ?_)
    · rw [nI_leI (by omega) (by omega)] at c1
      obtain rfl : d = 0 := by omega
      refine lv_iconst (v := (-1)) C0.1.1 C0.1.2.1 dX0_leastUnused_26 (by decide) ?_
      exact gs_reti r C0 hz (⟨rfl, by rw [key]; rfl⟩) (Nat.le_of_ble_eq_true rfl) (Nat.le_of_ble_eq_true rfl) dX0_leastUnused_27
    · rw [nI_leI (by omega) (by omega)] at c1
      obtain ⟨d', rfl⟩ : ∃ d', d = d' + 1 := ⟨d - 1, by omega⟩
      refine lv_aload_n C0.1.1 C0.1.2.1 dX0_leastUnused_8 rfl (lv_at hl 0 rfl) ?_
      refine xg_bg C0 hin hz l_bg dX0_leastUnused_9 ?_
      refine lv_iload_n C0.1.1 C0.1.2.1 dX0_leastUnused_12 rfl (lv_at hl 1 rfl) ?_
      refine xl_bg C0 hz k (by omega) rfl dX0_leastUnused_13 ?_
      refine gs_eq (y := xb (hs_u S k) (hs_b S k)) (hS.1 k (by omega)) ?_
      refine lv_iconst (v := (-1)) C0.1.1 C0.1.2.1 dX0_leastUnused_14 (by decide) ?_
      refine lv_icmp_ne (tgt := 20) C0.1.1 C0.1.2.1 dX0_leastUnused_15 (by decide) (fun c2 => ?_) (fun c2 => ?_)
      · skip
        rw [xb_m1 (hI.b2 (by omega)) (hI.u2 (by omega))] at c2
        refine lv_iinc (v := nI (k + 1)) (lv' := [(1, .int (nI (k + 1))), (0, .ref (q 0))]) C0.1.1 C0.1.2.1 dX0_leastUnused_20 hl (k := 1) rfl (nI_1 k) (by decide) rfl (fun ls hl => ?_)
        refine lv_goto (tgt := 2) C0.1.1 C0.1.2.1 dX0_leastUnused_23 (by decide) ?_
        have hl : lv_has ls 2 [(0, .ref (q 0)), (1, .int (nI (k + 1)))] := lv_sub hl [1, 0] rfl
        exact ih d' (by omega) (k + 1) ls _ _ hz (by omega) (by rw [key, hs_lu, if_neg c2]) hl
      · skip
        rw [xb_m1 (hI.b2 (by omega)) (hI.u2 (by omega))] at c2
        refine lv_iload_n C0.1.1 C0.1.2.1 dX0_leastUnused_18 rfl (lv_at hl 1 rfl) ?_
        exact gs_reti r C0 hz (⟨rfl, by rw [key, hs_lu, if_pos c2]; rfl⟩) (Nat.le_of_ble_eq_true rfl) (Nat.le_of_ble_eq_true rfl) dX0_leastUnused_19
set_option maxHeartbeats 4000000 in
set_option maxRecDepth 100000 in
/-- countHandles -/
theorem k_countHandles (l : Launch) (G : gs_G) (q : Nat → Nat) (r : xr) (S : hs_S) (hS : rx S r) (hI : hs_I S) (v : Nat) (hv : v < 2) : gm_i l yX0_countHandles wsX0_countHandles (gm_rm 1 0 0) G (xw G q) r [.ref (q 0), .int (xb v 0)] (fun res u => u = r ∧ res = nI (hs_cn (hs_u S) v 48)) 0 0 := by
  refine gm_i.of (cc := cX0_countHandles) (nL := 4) (ret := (some .int)) (by decide +kernel) rfl (Nat.le_of_ble_eq_true rfl) ?_
  intro p e s m args below meth c ls C0 hz hl
  have hin : ∀ w ∈ wsX00, w ∈ wsX0_countHandles := by decide +kernel
  have l_bg : Cond.fieldLink RX0 13 "HandleHeap" "begin" "[I" ∈ wsX0_countHandles := by decide +kernel
  have hl : lv_has ls 4 [(0, .ref (q 0)), (1, .int (xb v 0))] := hl
  have hq : ∀ k, k < 48 → (xb (hs_u S k) (hs_b S k) = xb v 0 ↔ hs_u S k = v) := by
    intro k hk
    rcases (show v = 0 ∨ v = 1 by omega) with rfl | rfl
    · exact xb_m1 (hI.b2 hk) (hI.u2 hk)
    · exact xb_m2 (hI.b2 hk) (hI.u2 hk)
  refine lv_iconst (v := nI 0) C0.1.1 C0.1.2.1 dX0_countHandles_0 (by decide) ?_
  refine lv_istore_n (lv' := [(2, .int (nI 0)), (0, .ref (q 0)), (1, .int (xb v 0))]) C0.1.1 C0.1.2.1 dX0_countHandles_1 rfl hl (by decide) rfl (fun ls hl => ?_)
  refine lv_iconst (v := nI 0) C0.1.1 C0.1.2.1 dX0_countHandles_2 (by decide) ?_
  refine lv_istore_n (lv' := [(3, .int (nI 0)), (2, .int (nI 0)), (0, .ref (q 0)), (1, .int (xb v 0))]) C0.1.1 C0.1.2.1 dX0_countHandles_3 rfl hl (by decide) rfl (fun ls hl => ?_)
  have hl : lv_has ls 4 [(0, .ref (q 0)), (1, .int (xb v 0)), (2, .int (nI 0)), (3, .int (nI 0))] := lv_sub hl [2, 3, 1, 0] rfl
  refine (?loop : ∀ (d k : Nat) (ls : Array Slot) (H : Heap) (locs : List Loc), gs_Z G (xw G q r) _ s H locs → k + d = 48 → lv_has ls 4 [(0, .ref (q 0)), (1, .int (xb v 0)), (2, .int (nI (hs_cn (hs_u S) v k))), (3, .int (nI k))] → W p l e _ s m args below meth c H locs 0 0 _ (F0 m 4 ls [])) 48 0 ls _ _ hz (Nat.zero_add _) hl
  intro d
  induction d using Nat.strongRecOn with
  | _ d ih =>
    intro k ls H locs hz hd hl
    refine lv_iload_n C0.1.1 C0.1.2.1 dX0_countHandles_4 rfl (lv_at hl 3 rfl) ?_
    refine lv_bipush (v := nI 48) C0.1.1 C0.1.2.1 dX0_countHandles_5 (by decide) ?_
    refine lv_icmp_ge (tgt := 29) C0.1.1 C0.1.2.1 dX0_countHandles_7 (by decide) (fun c1 => ?_) (fun c1 => ?_)
    · rw [nI_leI (by omega) (by omega)] at c1
      obtain rfl : k = 48 := by omega
      refine lv_iload_n C0.1.1 C0.1.2.1 dX0_countHandles_29 rfl (lv_at hl 2 rfl) ?_
      exact gs_reti r C0 hz (⟨rfl, rfl⟩) (Nat.le_of_ble_eq_true rfl) (Nat.le_of_ble_eq_true rfl) dX0_countHandles_30
    · rw [nI_leI (by omega) (by omega)] at c1
      refine lv_aload_n C0.1.1 C0.1.2.1 dX0_countHandles_10 rfl (lv_at hl 0 rfl) ?_
      refine xg_bg C0 hin hz l_bg dX0_countHandles_11 ?_
      refine lv_iload_n C0.1.1 C0.1.2.1 dX0_countHandles_14 rfl (lv_at hl 3 rfl) ?_
      refine xl_bg C0 hz k (by omega) rfl dX0_countHandles_15 ?_
      refine gs_eq (y := xb (hs_u S k) (hs_b S k)) (hS.1 k (by omega)) ?_
      refine lv_iload_n C0.1.1 C0.1.2.1 dX0_countHandles_16 rfl (lv_at hl 1 rfl) ?_
      refine lv_icmp_ne (tgt := 23) C0.1.1 C0.1.2.1 dX0_countHandles_17 (by decide) (fun c2 => ?_) (fun c2 => ?_)
      · skip
        rw [hq k (by omega)] at c2
        have hc : hs_cn (hs_u S) v k = hs_cn (hs_u S) v (k + 1) := by rw [hs_cn, if_neg c2]
        rw [hc] at hl
        refine lv_iinc (v := nI (k + 1)) (lv' := [(3, .int (nI (k + 1))), (0, .ref (q 0)), (1, .int (xb v 0)), (2, .int (nI (hs_cn (hs_u S) v (k + 1))))]) C0.1.1 C0.1.2.1 dX0_countHandles_23 hl (k := 3) rfl (nI_1 k) (by decide) rfl (fun ls hl => ?_)
        refine lv_goto (tgt := 4) C0.1.1 C0.1.2.1 dX0_countHandles_26 (by decide) ?_
        have hl : lv_has ls 4 [(0, .ref (q 0)), (1, .int (xb v 0)), (2, .int (nI (hs_cn (hs_u S) v (k + 1)))), (3, .int (nI (k + 1)))] := lv_sub hl [1, 2, 3, 0] rfl
        exact ih (d - 1) (by omega) (k + 1) ls _ _ hz (by omega) hl
      · skip
        rw [hq k (by omega)] at c2
        have hc : hs_cn (hs_u S) v k + 1 = hs_cn (hs_u S) v (k + 1) := by rw [hs_cn, if_pos c2]
        refine lv_iinc (v := nI ((hs_cn (hs_u S) v k) + 1)) (lv' := [(2, .int (nI ((hs_cn (hs_u S) v k) + 1))), (0, .ref (q 0)), (1, .int (xb v 0)), (3, .int (nI k))]) C0.1.1 C0.1.2.1 dX0_countHandles_20 hl (k := 2) rfl (nI_1 (hs_cn (hs_u S) v k)) (by decide) rfl (fun ls hl => ?_)
        refine lv_iinc (v := nI (k + 1)) (lv' := [(3, .int (nI (k + 1))), (2, .int (nI ((hs_cn (hs_u S) v k) + 1))), (0, .ref (q 0)), (1, .int (xb v 0))]) C0.1.1 C0.1.2.1 dX0_countHandles_23 hl (k := 3) rfl (nI_1 k) (by decide) rfl (fun ls hl => ?_)
        refine lv_goto (tgt := 4) C0.1.1 C0.1.2.1 dX0_countHandles_26 (by decide) ?_
        rw [hc] at hl
        have hl : lv_has ls 4 [(0, .ref (q 0)), (1, .int (xb v 0)), (2, .int (nI (hs_cn (hs_u S) v (k + 1)))), (3, .int (nI (k + 1)))] := lv_sub hl [2, 3, 1, 0] rfl
        exact ih (d - 1) (by omega) (k + 1) ls _ _ hz (by omega) hl
end
section
/-! HandleHeap: what a call refuses, and its face -/
set_option maxHeartbeats 4000000 in
set_option maxRecDepth 100000 in
/-- checkHandle -/
theorem k_checkHandle (l : Launch) (hst : l.stackTraces = false) (G : gs_G) (q : Nat → Nat) (r : xr) (x : Int32) : gx_v l yX0_checkHandle wsX0_checkHandle (gm_rm 6 1 6) G (xw G q) r [.int x] (fun u => u = r ∧ ∃ h, h < 48 ∧ x = nI h) (fun E => E = xIA ∧ ¬ ∃ h, h < 48 ∧ x = nI h) 1 6 := by
  refine gx_v.of (cc := cX0_checkHandle) (nL := 1) (ret := none) (by decide +kernel) rfl (Nat.le_of_ble_eq_true rfl) ?_
  intro p e s m args below meth c ls C0 hz hxz hl
  have hl : lv_has ls 1 [(0, .int x)] := hl
  refine lv_iload_n C0.1.1 C0.1.2.1 dX0_checkHandle_0 rfl (lv_at hl 0 rfl) ?_
  refine lv_if_lt (tgt := 10) C0.1.1 C0.1.2.1 dX0_checkHandle_1 (by decide) (fun c1 => ?_) (fun c1 => ?_)
  · skip
    exact gs_throw (cls := "java/lang/IllegalArgumentException") (text := "handle is not 0 to 47") C0 hst hz hxz (⟨rfl, fun ⟨h, h1, h2⟩ => by rw [h2] at c1; exact nI_pos (by omega) c1⟩) (Or.inl rfl) (by decide) (C0.1.2.2.2.2 (.classLink RX0 104 "java/lang/IllegalArgumentException") (by decide +kernel)) (C0.1.2.2.2.2 (.initialized "java/lang/IllegalArgumentException") (by decide +kernel)) (fun w hw => C0.1.2.2.2.2 w (List.mem_cons_of_mem _ (List.mem_append_right _ (hw)))) (by decide +kernel) (by decide +kernel) hl.1 dX0_checkHandle_10 dX0_checkHandle_13 dX0_checkHandle_14 dX0_checkHandle_16 dX0_checkHandle_19 (Nat.le_of_ble_eq_true rfl) (Nat.le_of_ble_eq_true rfl) (Nat.le_of_ble_eq_true rfl) (Nat.le_of_ble_eq_true rfl) (Nat.le_of_ble_eq_true rfl) (Nat.le_of_ble_eq_true rfl)
  · skip
    obtain ⟨j, hj, rfl⟩ := nI_of c1
    refine lv_iload_n C0.1.1 C0.1.2.1 dX0_checkHandle_4 rfl (lv_at hl 0 rfl) ?_
    refine lv_bipush (v := nI 48) C0.1.1 C0.1.2.1 dX0_checkHandle_5 (by decide) ?_
    refine lv_icmp_lt (tgt := 20) C0.1.1 C0.1.2.1 dX0_checkHandle_7 (by decide) (fun c2 => ?_) (fun c2 => ?_)
    · rw [nI_ltI (by omega) (by omega)] at c2
      exact vx_ret (gs_retv r C0 hz (⟨rfl, j, c2, rfl⟩) (Nat.le_of_ble_eq_true rfl) (Nat.le_of_ble_eq_true rfl) dX0_checkHandle_20)
    · rw [nI_ltI (by omega) (by omega)] at c2
      exact gs_throw (cls := "java/lang/IllegalArgumentException") (text := "handle is not 0 to 47") C0 hst hz hxz (⟨rfl, fun ⟨h, h1, h2⟩ => by rw [nI_eq hj (by omega)] at h2; omega⟩) (Or.inl rfl) (by decide) (C0.1.2.2.2.2 (.classLink RX0 104 "java/lang/IllegalArgumentException") (by decide +kernel)) (C0.1.2.2.2.2 (.initialized "java/lang/IllegalArgumentException") (by decide +kernel)) (fun w hw => C0.1.2.2.2.2 w (List.mem_cons_of_mem _ (List.mem_append_right _ (hw)))) (by decide +kernel) (by decide +kernel) hl.1 dX0_checkHandle_10 dX0_checkHandle_13 dX0_checkHandle_14 dX0_checkHandle_16 dX0_checkHandle_19 (Nat.le_of_ble_eq_true rfl) (Nat.le_of_ble_eq_true rfl) (Nat.le_of_ble_eq_true rfl) (Nat.le_of_ble_eq_true rfl) (Nat.le_of_ble_eq_true rfl) (Nat.le_of_ble_eq_true rfl)
set_option maxHeartbeats 4000000 in
set_option maxRecDepth 100000 in
/-- checkInUse -/
theorem k_checkInUse (l : Launch) (hst : l.stackTraces = false) (G : gs_G) (q : Nat → Nat) (r : xr) (S : hs_S) (hS : rx S r) (hI : hs_I S) (x : Int32) : gx_v l yX0_checkInUse wsX0_checkInUse (gm_rm 7 2 12) G (xw G q) r [.ref (q 0), .int x] (fun u => u = r ∧ ∃ h, h < 48 ∧ x = nI h ∧ hs_u S h ≠ 0) (fun E => E = xIA ∧ ¬ ∃ h, h < 48 ∧ x = nI h ∧ hs_u S h ≠ 0) 2 12 := by
  refine gx_v.of (cc := cX0_checkInUse) (nL := 2) (ret := none) (by decide +kernel) rfl (Nat.le_of_ble_eq_true rfl) ?_
  intro p e s m args below meth c ls C0 hz hxz hl
  have hin : ∀ w ∈ wsX00, w ∈ wsX0_checkInUse := by decide +kernel
  have l_bg : Cond.fieldLink RX0 13 "HandleHeap" "begin" "[I" ∈ wsX0_checkInUse := by decide +kernel
  have hl : lv_has ls 2 [(0, .ref (q 0)), (1, .int x)] := hl
  refine lv_iload_n C0.1.1 C0.1.2.1 dX0_checkInUse_0 rfl (lv_at hl 1 rfl) ?_
  refine gx_callSv (w := xw G q) (wr := []) C0.1 (k_checkHandle l hst G q r x) (va_cwS 1 C0.1.2.2.2.2 gX0_checkInUse_X0_checkHandle rfl rfl rfl (by decide +kernel) ⟨Nat.le_of_ble_eq_true rfl, Nat.le_of_ble_eq_true rfl⟩) (gs_nil hz) hxz rfl hl.1 rfl (Nat.le_of_ble_eq_true rfl) dX0_checkInUse_1 ⟨Nat.le_of_ble_eq_true rfl, Nat.le_of_ble_eq_true rfl⟩ (fun E ce q9 H locs hE hz hce hcv hcl => gs_pass C0 (⟨hE.1, fun ⟨h, h1, h2, _⟩ => hE.2 ⟨h, h1, h2⟩⟩) (gs_unnil hz) hce hcv hcl (Nat.le_of_ble_eq_true rfl) (Nat.le_of_ble_eq_true rfl)) (fun u9 H locs hp9 hz => ?_)
  replace hz := gs_unnil hz
  rw [hp9.1] at hz
  obtain ⟨-, h, hh, rfl⟩ := hp9
  refine lv_aload_n C0.1.1 C0.1.2.1 dX0_checkInUse_4 rfl (lv_at hl 0 rfl) ?_
  refine xg_bg C0 hin hz l_bg dX0_checkInUse_5 ?_
  refine lv_iload_n C0.1.1 C0.1.2.1 dX0_checkInUse_8 rfl (lv_at hl 1 rfl) ?_
  refine xl_bg C0 hz h (by omega) rfl dX0_checkInUse_9 ?_
  refine gs_eq (y := xb (hs_u S h) (hs_b S h)) (hS.1 h hh) ?_
  refine lv_iconst (v := (-1)) C0.1.1 C0.1.2.1 dX0_checkInUse_10 (by decide) ?_
  refine lv_icmp_ne (tgt := 24) C0.1.1 C0.1.2.1 dX0_checkInUse_11 (by decide) (fun c1 => ?_) (fun c1 => ?_)
  · skip
    rw [xb_m1 (hI.b2 hh) (hI.u2 hh)] at c1
    exact vx_ret (gs_retv r C0 hz (⟨rfl, h, hh, rfl, c1⟩) (Nat.le_of_ble_eq_true rfl) (Nat.le_of_ble_eq_true rfl) dX0_checkInUse_24)
  · skip
    rw [xb_m1 (hI.b2 hh) (hI.u2 hh)] at c1
    exact gs_throw (cls := "java/lang/IllegalArgumentException") (text := "the handle is unused") C0 hst hz hxz (⟨rfl, fun ⟨g, h1, h2, h3⟩ => by rw [nI_eq (by omega) (by omega)] at h2; subst h2; exact h3 c1⟩) (Or.inl rfl) (by decide) (C0.1.2.2.2.2 (.classLink RX0 104 "java/lang/IllegalArgumentException") (by decide +kernel)) (C0.1.2.2.2.2 (.initialized "java/lang/IllegalArgumentException") (by decide +kernel)) (fun w hw => C0.1.2.2.2.2 w (List.mem_cons_of_mem _ (List.mem_append_right _ (hw)))) (by decide +kernel) (by decide +kernel) hl.1 dX0_checkInUse_14 dX0_checkInUse_17 dX0_checkInUse_18 dX0_checkInUse_20 dX0_checkInUse_23 (Nat.le_of_ble_eq_true rfl) (Nat.le_of_ble_eq_true rfl) (Nat.le_of_ble_eq_true rfl) (Nat.le_of_ble_eq_true rfl) (Nat.le_of_ble_eq_true rfl) (Nat.le_of_ble_eq_true rfl)
set_option maxHeartbeats 4000000 in
set_option maxRecDepth 100000 in
/-- checkHasBlock -/
theorem k_checkHasBlock (l : Launch) (hst : l.stackTraces = false) (G : gs_G) (q : Nat → Nat) (r : xr) (S : hs_S) (hS : rx S r) (hI : hs_I S) (x : Int32) : gx_v l yX0_checkHasBlock wsX0_checkHasBlock (gm_rm 8 3 18) G (xw G q) r [.ref (q 0), .int x] (fun u => u = r ∧ ∃ h, h < 48 ∧ x = nI h ∧ hs_u S h = 2) (fun E => (E = xIA ∧ ¬ ∃ h, h < 48 ∧ x = nI h ∧ hs_u S h ≠ 0) ∨ (E = xIS ∧ ∃ h, h < 48 ∧ x = nI h ∧ hs_u S h = 1)) 3 18 := by
  refine gx_v.of (cc := cX0_checkHasBlock) (nL := 2) (ret := none) (by decide +kernel) rfl (Nat.le_of_ble_eq_true rfl) ?_
  intro p e s m args below meth c ls C0 hz hxz hl
  have hin : ∀ w ∈ wsX00, w ∈ wsX0_checkHasBlock := by decide +kernel
  have l_bg : Cond.fieldLink RX0 13 "HandleHeap" "begin" "[I" ∈ wsX0_checkHasBlock := by decide +kernel
  have hl : lv_has ls 2 [(0, .ref (q 0)), (1, .int x)] := hl
  refine lv_aload_n C0.1.1 C0.1.2.1 dX0_checkHasBlock_0 rfl (lv_at hl 0 rfl) ?_
  refine lv_iload_n C0.1.1 C0.1.2.1 dX0_checkHasBlock_1 rfl (lv_at hl 1 rfl) ?_
  refine gx_callVv (w := xw G q) (wr := []) C0.1 (k_checkInUse l hst G q r S hS hI x) (cwV 1 C0.1.2.2.2.2 gX0_checkHasBlock_X0_checkInUse rfl rfl rfl (by decide +kernel) ⟨Nat.le_of_ble_eq_true rfl, Nat.le_of_ble_eq_true rfl⟩) (ci := 0) rfl rfl rfl (gs_nil hz) hxz rfl hl.1 rfl (Nat.le_of_ble_eq_true rfl) dX0_checkHasBlock_2 ⟨Nat.le_of_ble_eq_true rfl, Nat.le_of_ble_eq_true rfl⟩ (fun E ce q9 H locs hE hz hce hcv hcl => gs_pass C0 (Or.inl hE) (gs_unnil hz) hce hcv hcl (Nat.le_of_ble_eq_true rfl) (Nat.le_of_ble_eq_true rfl)) (fun u9 H locs hp9 hz => ?_)
  replace hz := gs_unnil hz
  rw [hp9.1] at hz
  obtain ⟨-, h, hh, rfl, hu⟩ := hp9
  have hu2 := hI.u2 hh
  refine lv_aload_n C0.1.1 C0.1.2.1 dX0_checkHasBlock_5 rfl (lv_at hl 0 rfl) ?_
  refine xg_bg C0 hin hz l_bg dX0_checkHasBlock_6 ?_
  refine lv_iload_n C0.1.1 C0.1.2.1 dX0_checkHasBlock_9 rfl (lv_at hl 1 rfl) ?_
  refine xl_bg C0 hz h (by omega) rfl dX0_checkHasBlock_10 ?_
  refine gs_eq (y := xb (hs_u S h) (hs_b S h)) (hS.1 h hh) ?_
  refine lv_bipush (v := (-2)) C0.1.1 C0.1.2.1 dX0_checkHasBlock_11 (by decide) ?_
  refine lv_icmp_ne (tgt := 26) C0.1.1 C0.1.2.1 dX0_checkHasBlock_13 (by decide) (fun c1 => ?_) (fun c1 => ?_)
  · skip
    rw [xb_m2 (hI.b2 hh) (hI.u2 hh)] at c1
    exact vx_ret (gs_retv r C0 hz (⟨rfl, h, hh, rfl, by omega⟩) (Nat.le_of_ble_eq_true rfl) (Nat.le_of_ble_eq_true rfl) dX0_checkHasBlock_26)
  · skip
    rw [xb_m2 (hI.b2 hh) (hI.u2 hh)] at c1
    exact gs_throw (cls := "java/lang/IllegalStateException") (text := "the handle is empty") C0 hst hz hxz (Or.inr ⟨rfl, h, hh, rfl, c1⟩) (Or.inr (Or.inl rfl)) (by decide) (C0.1.2.2.2.2 (.classLink RX0 88 "java/lang/IllegalStateException") (by decide +kernel)) (C0.1.2.2.2.2 (.initialized "java/lang/IllegalStateException") (by decide +kernel)) (fun w hw => C0.1.2.2.2.2 w (List.mem_cons_of_mem _ (List.mem_append_left _ (List.mem_append_right _ (hw))))) (by decide +kernel) (by decide +kernel) hl.1 dX0_checkHasBlock_16 dX0_checkHasBlock_19 dX0_checkHasBlock_20 dX0_checkHasBlock_22 dX0_checkHasBlock_25 (Nat.le_of_ble_eq_true rfl) (Nat.le_of_ble_eq_true rfl) (Nat.le_of_ble_eq_true rfl) (Nat.le_of_ble_eq_true rfl) (Nat.le_of_ble_eq_true rfl) (Nat.le_of_ble_eq_true rfl)
set_option maxHeartbeats 4000000 in
set_option maxRecDepth 100000 in
/-- checkBlockLength -/
theorem k_checkBlockLength (l : Launch) (hst : l.stackTraces = false) (G : gs_G) (q : Nat → Nat) (r : xr) (x : Int32) : gx_v l yX0_checkBlockLength wsX0_checkBlockLength (gm_rm 6 1 6) G (xw G q) r [.int x] (fun u => u = r ∧ ∃ n, 1 ≤ n ∧ n ≤ 1024 ∧ x = nI n) (fun E => E = xIA ∧ ¬ ∃ n, 1 ≤ n ∧ n ≤ 1024 ∧ x = nI n) 1 6 := by
  refine gx_v.of (cc := cX0_checkBlockLength) (nL := 1) (ret := none) (by decide +kernel) rfl (Nat.le_of_ble_eq_true rfl) ?_
  intro p e s m args below meth c ls C0 hz hxz hl
  have hl : lv_has ls 1 [(0, .int x)] := hl
  refine lv_iload_n C0.1.1 C0.1.2.1 dX0_checkBlockLength_0 rfl (lv_at hl 0 rfl) ?_
  refine lv_iconst (v := nI 1) C0.1.1 C0.1.2.1 dX0_checkBlockLength_1 (by decide) ?_
  refine lv_icmp_lt (tgt := 12) C0.1.1 C0.1.2.1 dX0_checkBlockLength_2 (by decide) (fun c1 => ?_) (fun c1 => ?_)
  · skip
    exact gs_throw (cls := "java/lang/IllegalArgumentException") (text := "n is not 1 to 1024") C0 hst hz hxz (⟨rfl, fun ⟨h, h1, h2, h3⟩ => by rw [h3, nI_ltI (by omega) (by omega)] at c1; omega⟩) (Or.inl rfl) (by decide) (C0.1.2.2.2.2 (.classLink RX0 104 "java/lang/IllegalArgumentException") (by decide +kernel)) (C0.1.2.2.2.2 (.initialized "java/lang/IllegalArgumentException") (by decide +kernel)) (fun w hw => C0.1.2.2.2.2 w (List.mem_cons_of_mem _ (List.mem_append_right _ (hw)))) (by decide +kernel) (by decide +kernel) hl.1 dX0_checkBlockLength_12 dX0_checkBlockLength_15 dX0_checkBlockLength_16 dX0_checkBlockLength_18 dX0_checkBlockLength_21 (Nat.le_of_ble_eq_true rfl) (Nat.le_of_ble_eq_true rfl) (Nat.le_of_ble_eq_true rfl) (Nat.le_of_ble_eq_true rfl) (Nat.le_of_ble_eq_true rfl) (Nat.le_of_ble_eq_true rfl)
  · skip
    obtain ⟨j, hj, rfl⟩ := nI_of (x := x) (fun z => c1 (Int32.lt_trans z (by decide)))
    rw [nI_ltI (by omega) (by omega)] at c1
    refine lv_iload_n C0.1.1 C0.1.2.1 dX0_checkBlockLength_5 rfl (lv_at hl 0 rfl) ?_
    refine lv_sipush (v := nI 1024) C0.1.1 C0.1.2.1 dX0_checkBlockLength_6 (by decide) ?_
    refine lv_icmp_le (tgt := 22) C0.1.1 C0.1.2.1 dX0_checkBlockLength_9 (by decide) (fun c2 => ?_) (fun c2 => ?_)
    · rw [nI_leI (by omega) (by omega)] at c2
      exact vx_ret (gs_retv r C0 hz (⟨rfl, j, by omega, c2, rfl⟩) (Nat.le_of_ble_eq_true rfl) (Nat.le_of_ble_eq_true rfl) dX0_checkBlockLength_22)
    · rw [nI_leI (by omega) (by omega)] at c2
      exact gs_throw (cls := "java/lang/IllegalArgumentException") (text := "n is not 1 to 1024") C0 hst hz hxz (⟨rfl, fun ⟨h, h1, h2, h3⟩ => by rw [nI_eq hj (by omega)] at h3; omega⟩) (Or.inl rfl) (by decide) (C0.1.2.2.2.2 (.classLink RX0 104 "java/lang/IllegalArgumentException") (by decide +kernel)) (C0.1.2.2.2.2 (.initialized "java/lang/IllegalArgumentException") (by decide +kernel)) (fun w hw => C0.1.2.2.2.2 w (List.mem_cons_of_mem _ (List.mem_append_right _ (hw)))) (by decide +kernel) (by decide +kernel) hl.1 dX0_checkBlockLength_12 dX0_checkBlockLength_15 dX0_checkBlockLength_16 dX0_checkBlockLength_18 dX0_checkBlockLength_21 (Nat.le_of_ble_eq_true rfl) (Nat.le_of_ble_eq_true rfl) (Nat.le_of_ble_eq_true rfl) (Nat.le_of_ble_eq_true rfl) (Nat.le_of_ble_eq_true rfl) (Nat.le_of_ble_eq_true rfl)
set_option maxHeartbeats 4000000 in
set_option maxRecDepth 100000 in
/-- checkByte -/
theorem k_checkByte (l : Launch) (hst : l.stackTraces = false) (G : gs_G) (q : Nat → Nat) (r : xr) (x : Int32) (n : Nat) (hn : n ≤ 1024) : gx_v l yX0_checkByte wsX0_checkByte (gm_rm 6 1 6) G (xw G q) r [.int x, .int (nI n)] (fun u => u = r ∧ ∃ i, i < n ∧ x = nI i) (fun E => E = xIO ∧ ¬ ∃ i, i < n ∧ x = nI i) 1 6 := by
  refine gx_v.of (cc := cX0_checkByte) (nL := 2) (ret := none) (by decide +kernel) rfl (Nat.le_of_ble_eq_true rfl) ?_
  intro p e s m args below meth c ls C0 hz hxz hl
  have hl : lv_has ls 2 [(0, .int x), (1, .int (nI n))] := hl
  refine lv_iload_n C0.1.1 C0.1.2.1 dX0_checkByte_0 rfl (lv_at hl 0 rfl) ?_
  refine lv_if_lt (tgt := 9) C0.1.1 C0.1.2.1 dX0_checkByte_1 (by decide) (fun c1 => ?_) (fun c1 => ?_)
  · skip
    exact gs_throw (cls := "java/lang/IndexOutOfBoundsException") (text := "there is no such byte") C0 hst hz hxz (⟨rfl, fun ⟨h, h1, h2⟩ => by rw [h2] at c1; exact nI_pos (by omega) c1⟩) (Or.inr (Or.inr rfl)) (by decide) (C0.1.2.2.2.2 (.classLink RX0 142 "java/lang/IndexOutOfBoundsException") (by decide +kernel)) (C0.1.2.2.2.2 (.initialized "java/lang/IndexOutOfBoundsException") (by decide +kernel)) (fun w hw => C0.1.2.2.2.2 w (List.mem_cons_of_mem _ (List.mem_append_right _ (hw)))) (by decide +kernel) (by decide +kernel) hl.1 dX0_checkByte_9 dX0_checkByte_12 dX0_checkByte_13 dX0_checkByte_15 dX0_checkByte_18 (Nat.le_of_ble_eq_true rfl) (Nat.le_of_ble_eq_true rfl) (Nat.le_of_ble_eq_true rfl) (Nat.le_of_ble_eq_true rfl) (Nat.le_of_ble_eq_true rfl) (Nat.le_of_ble_eq_true rfl)
  · skip
    obtain ⟨j, hj, rfl⟩ := nI_of c1
    refine lv_iload_n C0.1.1 C0.1.2.1 dX0_checkByte_4 rfl (lv_at hl 0 rfl) ?_
    refine lv_iload_n C0.1.1 C0.1.2.1 dX0_checkByte_5 rfl (lv_at hl 1 rfl) ?_
    refine lv_icmp_lt (tgt := 19) C0.1.1 C0.1.2.1 dX0_checkByte_6 (by decide) (fun c2 => ?_) (fun c2 => ?_)
    · rw [nI_ltI (by omega) (by omega)] at c2
      exact vx_ret (gs_retv r C0 hz (⟨rfl, j, c2, rfl⟩) (Nat.le_of_ble_eq_true rfl) (Nat.le_of_ble_eq_true rfl) dX0_checkByte_19)
    · rw [nI_ltI (by omega) (by omega)] at c2
      exact gs_throw (cls := "java/lang/IndexOutOfBoundsException") (text := "there is no such byte") C0 hst hz hxz (⟨rfl, fun ⟨h, h1, h2⟩ => by rw [nI_eq hj (by omega)] at h2; omega⟩) (Or.inr (Or.inr rfl)) (by decide) (C0.1.2.2.2.2 (.classLink RX0 142 "java/lang/IndexOutOfBoundsException") (by decide +kernel)) (C0.1.2.2.2.2 (.initialized "java/lang/IndexOutOfBoundsException") (by decide +kernel)) (fun w hw => C0.1.2.2.2.2 w (List.mem_cons_of_mem _ (List.mem_append_right _ (hw)))) (by decide +kernel) (by decide +kernel) hl.1 dX0_checkByte_9 dX0_checkByte_12 dX0_checkByte_13 dX0_checkByte_15 dX0_checkByte_18 (Nat.le_of_ble_eq_true rfl) (Nat.le_of_ble_eq_true rfl) (Nat.le_of_ble_eq_true rfl) (Nat.le_of_ble_eq_true rfl) (Nat.le_of_ble_eq_true rfl) (Nat.le_of_ble_eq_true rfl)
end
