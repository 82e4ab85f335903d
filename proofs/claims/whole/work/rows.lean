section
-- ===== PART A: goes FIRST, ahead of the names: the tables' words, and 'selects' of the private methods out of them =====
/-- a private method of a class that the tables say can be made, by its rows of tables_1 -/
def lw_okq (q : MethodName × Nat) : Prop := (q.1.cls ≠ "java/lang/invoke/MethodHandle" ∧ q.1.cls ≠ "java/lang/invoke/VarHandle") ∧ Cond.instantiable q.1.cls q.2 ∈ tables_1 ∧ Cond.privateMethod q.1 ∈ tables_1 ∧ Cond.instanceMethod q.1 ∈ tables_1
theorem lw_p0 : lw_okq (⟨"SteppedCache$Writer", "lookUpKey", "()V"⟩, 13) := ⟨⟨by decide +kernel, by decide +kernel⟩, List.mem_of_getElem? (i := 133) (by decide +kernel), List.mem_of_getElem? (i := 288) (by decide +kernel), List.mem_of_getElem? (i := 289) (by decide +kernel)⟩
theorem lw_p1 : lw_okq (⟨"SteppedCache$Writer", "chooseWhenFound", "(I)V"⟩, 13) := ⟨⟨by decide +kernel, by decide +kernel⟩, List.mem_of_getElem? (i := 133) (by decide +kernel), List.mem_of_getElem? (i := 337) (by decide +kernel), List.mem_of_getElem? (i := 338) (by decide +kernel)⟩
theorem lw_p2 : lw_okq (⟨"SteppedCache$Writer", "chooseWhenNotFound", "()V"⟩, 13) := ⟨⟨by decide +kernel, by decide +kernel⟩, List.mem_of_getElem? (i := 133) (by decide +kernel), List.mem_of_getElem? (i := 341) (by decide +kernel), List.mem_of_getElem? (i := 342) (by decide +kernel)⟩
theorem lw_p3 : lw_okq (⟨"SteppedCache$Writer", "changeValue", "()V"⟩, 13) := ⟨⟨by decide +kernel, by decide +kernel⟩, List.mem_of_getElem? (i := 133) (by decide +kernel), List.mem_of_getElem? (i := 349) (by decide +kernel), List.mem_of_getElem? (i := 350) (by decide +kernel)⟩
theorem lw_p4 : lw_okq (⟨"SteppedCache$Writer", "changeToken", "()V"⟩, 13) := ⟨⟨by decide +kernel, by decide +kernel⟩, List.mem_of_getElem? (i := 133) (by decide +kernel), List.mem_of_getElem? (i := 354) (by decide +kernel), List.mem_of_getElem? (i := 355) (by decide +kernel)⟩
theorem lw_p5 : lw_okq (⟨"SteppedCache$Writer", "evict", "()V"⟩, 13) := ⟨⟨by decide +kernel, by decide +kernel⟩, List.mem_of_getElem? (i := 133) (by decide +kernel), List.mem_of_getElem? (i := 362) (by decide +kernel), List.mem_of_getElem? (i := 363) (by decide +kernel)⟩
theorem lw_p6 : lw_okq (⟨"SteppedCache$Writer", "turnHand", "()V"⟩, 13) := ⟨⟨by decide +kernel, by decide +kernel⟩, List.mem_of_getElem? (i := 133) (by decide +kernel), List.mem_of_getElem? (i := 366) (by decide +kernel), List.mem_of_getElem? (i := 367) (by decide +kernel)⟩
theorem lw_p7 : lw_okq (⟨"SteppedCache$Writer", "seekPath", "()V"⟩, 13) := ⟨⟨by decide +kernel, by decide +kernel⟩, List.mem_of_getElem? (i := 133) (by decide +kernel), List.mem_of_getElem? (i := 370) (by decide +kernel), List.mem_of_getElem? (i := 371) (by decide +kernel)⟩
theorem lw_p8 : lw_okq (⟨"SteppedCache$Path", "enter", "(III)V"⟩, 7) := ⟨⟨by decide +kernel, by decide +kernel⟩, List.mem_of_getElem? (i := 139) (by decide +kernel), List.mem_of_getElem? (i := 380) (by decide +kernel), List.mem_of_getElem? (i := 381) (by decide +kernel)⟩
theorem lw_p9 : lw_okq (⟨"SteppedCache$Path", "keep", "(I)V"⟩, 7) := ⟨⟨by decide +kernel, by decide +kernel⟩, List.mem_of_getElem? (i := 139) (by decide +kernel), List.mem_of_getElem? (i := 385) (by decide +kernel), List.mem_of_getElem? (i := 386) (by decide +kernel)⟩
theorem lw_p10 : lw_okq (⟨"SteppedCache$Writer", "chooseMove", "()V"⟩, 13) := ⟨⟨by decide +kernel, by decide +kernel⟩, List.mem_of_getElem? (i := 133) (by decide +kernel), List.mem_of_getElem? (i := 390) (by decide +kernel), List.mem_of_getElem? (i := 391) (by decide +kernel)⟩
theorem lw_p11 : lw_okq (⟨"SteppedCache$Writer", "moveOn", "()V"⟩, 13) := ⟨⟨by decide +kernel, by decide +kernel⟩, List.mem_of_getElem? (i := 133) (by decide +kernel), List.mem_of_getElem? (i := 394) (by decide +kernel), List.mem_of_getElem? (i := 395) (by decide +kernel)⟩
theorem lw_p12 : lw_okq (⟨"SteppedCache$Writer", "moveOff", "()V"⟩, 13) := ⟨⟨by decide +kernel, by decide +kernel⟩, List.mem_of_getElem? (i := 133) (by decide +kernel), List.mem_of_getElem? (i := 398) (by decide +kernel), List.mem_of_getElem? (i := 399) (by decide +kernel)⟩
theorem lw_p13 : lw_okq (⟨"SteppedCache$Writer", "insertKey", "()V"⟩, 13) := ⟨⟨by decide +kernel, by decide +kernel⟩, List.mem_of_getElem? (i := 133) (by decide +kernel), List.mem_of_getElem? (i := 402) (by decide +kernel), List.mem_of_getElem? (i := 403) (by decide +kernel)⟩
theorem lw_p14 : lw_okq (⟨"SteppedCache$Reader", "keepVersion", "()V"⟩, 11) := ⟨⟨by decide +kernel, by decide +kernel⟩, List.mem_of_getElem? (i := 212) (by decide +kernel), List.mem_of_getElem? (i := 443) (by decide +kernel), List.mem_of_getElem? (i := 444) (by decide +kernel)⟩
theorem lw_p15 : lw_okq (⟨"SteppedCache$Reader", "lookInto", "(II)V"⟩, 11) := ⟨⟨by decide +kernel, by decide +kernel⟩, List.mem_of_getElem? (i := 212) (by decide +kernel), List.mem_of_getElem? (i := 452) (by decide +kernel), List.mem_of_getElem? (i := 453) (by decide +kernel)⟩
def lw_privs_1 : List (MethodName × Nat) := [(⟨"SteppedCache$Writer", "lookUpKey", "()V"⟩, 13), (⟨"SteppedCache$Writer", "chooseWhenFound", "(I)V"⟩, 13), (⟨"SteppedCache$Writer", "chooseWhenNotFound", "()V"⟩, 13), (⟨"SteppedCache$Writer", "changeValue", "()V"⟩, 13), (⟨"SteppedCache$Writer", "changeToken", "()V"⟩, 13), (⟨"SteppedCache$Writer", "evict", "()V"⟩, 13), (⟨"SteppedCache$Writer", "turnHand", "()V"⟩, 13), (⟨"SteppedCache$Writer", "seekPath", "()V"⟩, 13), (⟨"SteppedCache$Path", "enter", "(III)V"⟩, 7), (⟨"SteppedCache$Path", "keep", "(I)V"⟩, 7), (⟨"SteppedCache$Writer", "chooseMove", "()V"⟩, 13), (⟨"SteppedCache$Writer", "moveOn", "()V"⟩, 13), (⟨"SteppedCache$Writer", "moveOff", "()V"⟩, 13), (⟨"SteppedCache$Writer", "insertKey", "()V"⟩, 13), (⟨"SteppedCache$Reader", "keepVersion", "()V"⟩, 11), (⟨"SteppedCache$Reader", "lookInto", "(II)V"⟩, 11)]
theorem lw_r1 : ∀ q ∈ lw_privs_1, lw_okq q := List.forall_mem_cons.mpr ⟨lw_p0, List.forall_mem_cons.mpr ⟨lw_p1, List.forall_mem_cons.mpr ⟨lw_p2, List.forall_mem_cons.mpr ⟨lw_p3, List.forall_mem_cons.mpr ⟨lw_p4, List.forall_mem_cons.mpr ⟨lw_p5, List.forall_mem_cons.mpr ⟨lw_p6, List.forall_mem_cons.mpr ⟨lw_p7, List.forall_mem_cons.mpr ⟨lw_p8, List.forall_mem_cons.mpr ⟨lw_p9, List.forall_mem_cons.mpr ⟨lw_p10, List.forall_mem_cons.mpr ⟨lw_p11, List.forall_mem_cons.mpr ⟨lw_p12, List.forall_mem_cons.mpr ⟨lw_p13, List.forall_mem_cons.mpr ⟨lw_p14, List.forall_mem_cons.mpr ⟨lw_p15, fun _ h => absurd h List.not_mem_nil⟩⟩⟩⟩⟩⟩⟩⟩⟩⟩⟩⟩⟩⟩⟩⟩
theorem lw_p16 : lw_okq (⟨"SteppedCache$Reader", "copyItem", "()V"⟩, 11) := ⟨⟨by decide +kernel, by decide +kernel⟩, List.mem_of_getElem? (i := 212) (by decide +kernel), List.mem_of_getElem? (i := 458) (by decide +kernel), List.mem_of_getElem? (i := 459) (by decide +kernel)⟩
theorem lw_p17 : lw_okq (⟨"SteppedCache$Reader", "checkVersion", "()V"⟩, 11) := ⟨⟨by decide +kernel, by decide +kernel⟩, List.mem_of_getElem? (i := 212) (by decide +kernel), List.mem_of_getElem? (i := 462) (by decide +kernel), List.mem_of_getElem? (i := 463) (by decide +kernel)⟩
theorem lw_p18 : lw_okq (⟨"SteppedCache$Reader", "end", "(Z)V"⟩, 11) := ⟨⟨by decide +kernel, by decide +kernel⟩, List.mem_of_getElem? (i := 212) (by decide +kernel), List.mem_of_getElem? (i := 467) (by decide +kernel), List.mem_of_getElem? (i := 468) (by decide +kernel)⟩
theorem lw_p19 : lw_okq (⟨"SteppedCache$Reader", "readLocked", "()V"⟩, 11) := ⟨⟨by decide +kernel, by decide +kernel⟩, List.mem_of_getElem? (i := 212) (by decide +kernel), List.mem_of_getElem? (i := 471) (by decide +kernel), List.mem_of_getElem? (i := 472) (by decide +kernel)⟩
theorem lw_p20 : lw_okq (⟨"SteppedCache", "isHit", "(I)Z"⟩, 4) := ⟨⟨by decide +kernel, by decide +kernel⟩, List.mem_of_getElem? (i := 10) (by decide +kernel), List.mem_of_getElem? (i := 485) (by decide +kernel), List.mem_of_getElem? (i := 486) (by decide +kernel)⟩
theorem lw_p21 : lw_okq (⟨"SteppedCache", "isUsedItem", "(I)Z"⟩, 4) := ⟨⟨by decide +kernel, by decide +kernel⟩, List.mem_of_getElem? (i := 10) (by decide +kernel), List.mem_of_getElem? (i := 513) (by decide +kernel), List.mem_of_getElem? (i := 514) (by decide +kernel)⟩
theorem lw_p22 : lw_okq (⟨"SteppedCacheModel", "search", "(II)I"⟩, 38) := ⟨⟨by decide +kernel, by decide +kernel⟩, List.mem_of_getElem? (i := 538) (by decide +kernel), List.mem_of_getElem? (i := 680) (by decide +kernel), List.mem_of_getElem? (i := 681) (by decide +kernel)⟩
theorem lw_p23 : lw_okq (⟨"SteppedCacheModel", "one", "()V"⟩, 38) := ⟨⟨by decide +kernel, by decide +kernel⟩, List.mem_of_getElem? (i := 538) (by decide +kernel), List.mem_of_getElem? (i := 692) (by decide +kernel), List.mem_of_getElem? (i := 693) (by decide +kernel)⟩
theorem lw_p24 : lw_okq (⟨"SteppedCacheModel", "begin", "()V"⟩, 38) := ⟨⟨by decide +kernel, by decide +kernel⟩, List.mem_of_getElem? (i := 538) (by decide +kernel), List.mem_of_getElem? (i := 696) (by decide +kernel), List.mem_of_getElem? (i := 697) (by decide +kernel)⟩
theorem lw_p25 : lw_okq (⟨"SteppedCacheModel", "lookBoth", "(I)I"⟩, 38) := ⟨⟨by decide +kernel, by decide +kernel⟩, List.mem_of_getElem? (i := 538) (by decide +kernel), List.mem_of_getElem? (i := 700) (by decide +kernel), List.mem_of_getElem? (i := 701) (by decide +kernel)⟩
theorem lw_p26 : lw_okq (⟨"SteppedCacheModel", "look", "(II)I"⟩, 38) := ⟨⟨by decide +kernel, by decide +kernel⟩, List.mem_of_getElem? (i := 538) (by decide +kernel), List.mem_of_getElem? (i := 704) (by decide +kernel), List.mem_of_getElem? (i := 705) (by decide +kernel)⟩
theorem lw_p27 : lw_okq (⟨"SteppedCacheModel", "over", "(I)Z"⟩, 38) := ⟨⟨by decide +kernel, by decide +kernel⟩, List.mem_of_getElem? (i := 538) (by decide +kernel), List.mem_of_getElem? (i := 708) (by decide +kernel), List.mem_of_getElem? (i := 709) (by decide +kernel)⟩
theorem lw_p28 : lw_okq (⟨"SteppedCacheModel", "remove", "(I)V"⟩, 38) := ⟨⟨by decide +kernel, by decide +kernel⟩, List.mem_of_getElem? (i := 538) (by decide +kernel), List.mem_of_getElem? (i := 712) (by decide +kernel), List.mem_of_getElem? (i := 713) (by decide +kernel)⟩
theorem lw_p29 : lw_okq (⟨"SteppedCacheModel", "finish", "(I)V"⟩, 38) := ⟨⟨by decide +kernel, by decide +kernel⟩, List.mem_of_getElem? (i := 538) (by decide +kernel), List.mem_of_getElem? (i := 716) (by decide +kernel), List.mem_of_getElem? (i := 717) (by decide +kernel)⟩
theorem lw_p30 : lw_okq (⟨"SteppedCacheModel", "many", "()I"⟩, 38) := ⟨⟨by decide +kernel, by decide +kernel⟩, List.mem_of_getElem? (i := 538) (by decide +kernel), List.mem_of_getElem? (i := 720) (by decide +kernel), List.mem_of_getElem? (i := 721) (by decide +kernel)⟩
theorem lw_p31 : lw_okq (⟨"SteppedCacheModel", "stamp", "(I)V"⟩, 38) := ⟨⟨by decide +kernel, by decide +kernel⟩, List.mem_of_getElem? (i := 538) (by decide +kernel), List.mem_of_getElem? (i := 724) (by decide +kernel), List.mem_of_getElem? (i := 725) (by decide +kernel)⟩
def lw_privs_2 : List (MethodName × Nat) := [(⟨"SteppedCache$Reader", "copyItem", "()V"⟩, 11), (⟨"SteppedCache$Reader", "checkVersion", "()V"⟩, 11), (⟨"SteppedCache$Reader", "end", "(Z)V"⟩, 11), (⟨"SteppedCache$Reader", "readLocked", "()V"⟩, 11), (⟨"SteppedCache", "isHit", "(I)Z"⟩, 4), (⟨"SteppedCache", "isUsedItem", "(I)Z"⟩, 4), (⟨"SteppedCacheModel", "search", "(II)I"⟩, 38), (⟨"SteppedCacheModel", "one", "()V"⟩, 38), (⟨"SteppedCacheModel", "begin", "()V"⟩, 38), (⟨"SteppedCacheModel", "lookBoth", "(I)I"⟩, 38), (⟨"SteppedCacheModel", "look", "(II)I"⟩, 38), (⟨"SteppedCacheModel", "over", "(I)Z"⟩, 38), (⟨"SteppedCacheModel", "remove", "(I)V"⟩, 38), (⟨"SteppedCacheModel", "finish", "(I)V"⟩, 38), (⟨"SteppedCacheModel", "many", "()I"⟩, 38), (⟨"SteppedCacheModel", "stamp", "(I)V"⟩, 38)]
theorem lw_r2 : ∀ q ∈ lw_privs_2, lw_okq q := List.forall_mem_cons.mpr ⟨lw_p16, List.forall_mem_cons.mpr ⟨lw_p17, List.forall_mem_cons.mpr ⟨lw_p18, List.forall_mem_cons.mpr ⟨lw_p19, List.forall_mem_cons.mpr ⟨lw_p20, List.forall_mem_cons.mpr ⟨lw_p21, List.forall_mem_cons.mpr ⟨lw_p22, List.forall_mem_cons.mpr ⟨lw_p23, List.forall_mem_cons.mpr ⟨lw_p24, List.forall_mem_cons.mpr ⟨lw_p25, List.forall_mem_cons.mpr ⟨lw_p26, List.forall_mem_cons.mpr ⟨lw_p27, List.forall_mem_cons.mpr ⟨lw_p28, List.forall_mem_cons.mpr ⟨lw_p29, List.forall_mem_cons.mpr ⟨lw_p30, List.forall_mem_cons.mpr ⟨lw_p31, fun _ h => absurd h List.not_mem_nil⟩⟩⟩⟩⟩⟩⟩⟩⟩⟩⟩⟩⟩⟩⟩⟩
theorem lw_p32 : lw_okq (⟨"SteppedCacheModel", "evict", "()V"⟩, 38) := ⟨⟨by decide +kernel, by decide +kernel⟩, List.mem_of_getElem? (i := 538) (by decide +kernel), List.mem_of_getElem? (i := 728) (by decide +kernel), List.mem_of_getElem? (i := 729) (by decide +kernel)⟩
theorem lw_p33 : lw_okq (⟨"SteppedCacheModel", "seek", "()V"⟩, 38) := ⟨⟨by decide +kernel, by decide +kernel⟩, List.mem_of_getElem? (i := 538) (by decide +kernel), List.mem_of_getElem? (i := 732) (by decide +kernel), List.mem_of_getElem? (i := 733) (by decide +kernel)⟩
theorem lw_p34 : lw_okq (⟨"SteppedCacheModel", "leads", "(II)Z"⟩, 38) := ⟨⟨by decide +kernel, by decide +kernel⟩, List.mem_of_getElem? (i := 538) (by decide +kernel), List.mem_of_getElem? (i := 736) (by decide +kernel), List.mem_of_getElem? (i := 737) (by decide +kernel)⟩
theorem lw_p35 : lw_okq (⟨"SteppedCacheModel", "move", "()V"⟩, 38) := ⟨⟨by decide +kernel, by decide +kernel⟩, List.mem_of_getElem? (i := 538) (by decide +kernel), List.mem_of_getElem? (i := 740) (by decide +kernel), List.mem_of_getElem? (i := 741) (by decide +kernel)⟩
theorem lw_p36 : lw_okq (⟨"SteppedCacheModel", "enter", "()V"⟩, 38) := ⟨⟨by decide +kernel, by decide +kernel⟩, List.mem_of_getElem? (i := 538) (by decide +kernel), List.mem_of_getElem? (i := 744) (by decide +kernel), List.mem_of_getElem? (i := 745) (by decide +kernel)⟩
theorem lw_p37 : lw_okq (⟨"SteppedCacheModel", "reading", "(I)Z"⟩, 38) := ⟨⟨by decide +kernel, by decide +kernel⟩, List.mem_of_getElem? (i := 538) (by decide +kernel), List.mem_of_getElem? (i := 759) (by decide +kernel), List.mem_of_getElem? (i := 760) (by decide +kernel)⟩
theorem lw_p38 : lw_okq (⟨"SteppedCacheModel", "keep", "(II)V"⟩, 38) := ⟨⟨by decide +kernel, by decide +kernel⟩, List.mem_of_getElem? (i := 538) (by decide +kernel), List.mem_of_getElem? (i := 767) (by decide +kernel), List.mem_of_getElem? (i := 768) (by decide +kernel)⟩
theorem lw_p39 : lw_okq (⟨"SteppedCacheModel", "find", "(II)V"⟩, 38) := ⟨⟨by decide +kernel, by decide +kernel⟩, List.mem_of_getElem? (i := 538) (by decide +kernel), List.mem_of_getElem? (i := 771) (by decide +kernel), List.mem_of_getElem? (i := 772) (by decide +kernel)⟩
theorem lw_p40 : lw_okq (⟨"SteppedCacheModel", "copy", "(I)V"⟩, 38) := ⟨⟨by decide +kernel, by decide +kernel⟩, List.mem_of_getElem? (i := 538) (by decide +kernel), List.mem_of_getElem? (i := 775) (by decide +kernel), List.mem_of_getElem? (i := 776) (by decide +kernel)⟩
theorem lw_p41 : lw_okq (⟨"SteppedCacheModel", "check", "(I)V"⟩, 38) := ⟨⟨by decide +kernel, by decide +kernel⟩, List.mem_of_getElem? (i := 538) (by decide +kernel), List.mem_of_getElem? (i := 779) (by decide +kernel), List.mem_of_getElem? (i := 780) (by decide +kernel)⟩
theorem lw_p42 : lw_okq (⟨"SteppedCacheModel", "locked", "(I)V"⟩, 38) := ⟨⟨by decide +kernel, by decide +kernel⟩, List.mem_of_getElem? (i := 538) (by decide +kernel), List.mem_of_getElem? (i := 783) (by decide +kernel), List.mem_of_getElem? (i := 784) (by decide +kernel)⟩
def lw_privs_3 : List (MethodName × Nat) := [(⟨"SteppedCacheModel", "evict", "()V"⟩, 38), (⟨"SteppedCacheModel", "seek", "()V"⟩, 38), (⟨"SteppedCacheModel", "leads", "(II)Z"⟩, 38), (⟨"SteppedCacheModel", "move", "()V"⟩, 38), (⟨"SteppedCacheModel", "enter", "()V"⟩, 38), (⟨"SteppedCacheModel", "reading", "(I)Z"⟩, 38), (⟨"SteppedCacheModel", "keep", "(II)V"⟩, 38), (⟨"SteppedCacheModel", "find", "(II)V"⟩, 38), (⟨"SteppedCacheModel", "copy", "(I)V"⟩, 38), (⟨"SteppedCacheModel", "check", "(I)V"⟩, 38), (⟨"SteppedCacheModel", "locked", "(I)V"⟩, 38)]
theorem lw_r3 : ∀ q ∈ lw_privs_3, lw_okq q := List.forall_mem_cons.mpr ⟨lw_p32, List.forall_mem_cons.mpr ⟨lw_p33, List.forall_mem_cons.mpr ⟨lw_p34, List.forall_mem_cons.mpr ⟨lw_p35, List.forall_mem_cons.mpr ⟨lw_p36, List.forall_mem_cons.mpr ⟨lw_p37, List.forall_mem_cons.mpr ⟨lw_p38, List.forall_mem_cons.mpr ⟨lw_p39, List.forall_mem_cons.mpr ⟨lw_p40, List.forall_mem_cons.mpr ⟨lw_p41, List.forall_mem_cons.mpr ⟨lw_p42, fun _ h => absurd h List.not_mem_nil⟩⟩⟩⟩⟩⟩⟩⟩⟩⟩⟩
def lw_privs : List (MethodName × Nat) := lw_privs_1 ++ (lw_privs_2 ++ (lw_privs_3))
def lw_tbl : List Cond := k2_sels lw_privs ++ tables_1
theorem lw_privs_ok : ∀ q ∈ lw_privs, lw_okq q := by
  show ∀ q ∈ lw_privs_1 ++ (lw_privs_2 ++ (lw_privs_3)), lw_okq q
  exact List.forall_mem_append.mpr ⟨lw_r1, List.forall_mem_append.mpr ⟨lw_r2, lw_r3⟩⟩
end
section
/-! Names: of classes, fields in the order of their slots, methods and their code. Written by wip/gen/mknames.py out of claim/Statement.lean. -/
def xnR_SC : String := "SteppedCache"
def xnR_TA : String := "SteppedCache$Tally"
def xnR_ST : String := "SteppedCache$Store"
def xnR_WR : String := "SteppedCache$Writer"
def xnR_PA : String := "SteppedCache$Path"
def xnR_RD : String := "SteppedCache$Reader"
def xnR_MO : String := "SteppedCacheModel"
def xnR_AR : String := "java/util/Arrays"
def xnR_LW : String := "SteppedCacheLaw"
def xnT_SC : u_T := fun k => match k with
  | 0 => ("SteppedCache", "tally", "LSteppedCache$Tally;", true)
  | 1 => ("SteppedCache", "store", "LSteppedCache$Store;", true)
  | 2 => ("SteppedCache", "writer", "LSteppedCache$Writer;", true)
  | _ => ("SteppedCache", "readers", "[LSteppedCache$Reader;", true)
def xnK_SC : Nat → FieldType := fun k => match k with
  | 0 => .object "SteppedCache$Tally"
  | 1 => .object "SteppedCache$Store"
  | 2 => .object "SteppedCache$Writer"
  | _ => .array (.object "SteppedCache$Reader")
theorem xnM_SC : ∀ a, a < 4 → ∀ b, b < 4 → a ≠ b → (xnT_SC a).2.1 ≠ (xnT_SC b).2.1 := by decide +kernel
theorem xnO_SC : ∀ k, k < 4 → parseFieldDescriptor (xnT_SC k).2.2.1 = some (xnK_SC k) := by decide +kernel
def xnT_TA : u_T := fun k => match k with
  | 0 => ("SteppedCache$Tally", "evictions", "I", false)
  | 1 => ("SteppedCache$Tally", "moves", "I", false)
  | 2 => ("SteppedCache$Tally", "retries", "I", false)
  | 3 => ("SteppedCache$Tally", "waits", "I", false)
  | 4 => ("SteppedCache$Tally", "nearMisses", "I", false)
  | _ => ("SteppedCache$Tally", "expiredRemoved", "I", false)
def xnK_TA : Nat → FieldType := fun k => match k with
  | 0 => .int
  | 1 => .int
  | 2 => .int
  | 3 => .int
  | 4 => .int
  | _ => .int
theorem xnM_TA : ∀ a, a < 6 → ∀ b, b < 6 → a ≠ b → (xnT_TA a).2.1 ≠ (xnT_TA b).2.1 := by decide +kernel
theorem xnO_TA : ∀ k, k < 6 → parseFieldDescriptor (xnT_TA k).2.2.1 = some (xnK_TA k) := by decide +kernel
def xnT_ST : u_T := fun k => match k with
  | 0 => ("SteppedCache$Store", "tally", "LSteppedCache$Tally;", true)
  | 1 => ("SteppedCache$Store", "capacity", "I", true)
  | 2 => ("SteppedCache$Store", "ways", "I", true)
  | 3 => ("SteppedCache$Store", "places", "[I", true)
  | 4 => ("SteppedCache$Store", "keys", "[I", true)
  | 5 => ("SteppedCache$Store", "values", "[I", true)
  | 6 => ("SteppedCache$Store", "tokens", "[I", true)
  | 7 => ("SteppedCache$Store", "expiries", "[I", true)
  | 8 => ("SteppedCache$Store", "bits", "[Z", true)
  | 9 => ("SteppedCache$Store", "usedFlags", "[Z", true)
  | 10 => ("SteppedCache$Store", "versions", "[I", true)
  | 11 => ("SteppedCache$Store", "usedCount", "I", false)
  | 12 => ("SteppedCache$Store", "time", "I", false)
  | _ => ("SteppedCache$Store", "latestToken", "I", false)
def xnK_ST : Nat → FieldType := fun k => match k with
  | 0 => .object "SteppedCache$Tally"
  | 1 => .int
  | 2 => .int
  | 3 => .array .int
  | 4 => .array .int
  | 5 => .array .int
  | 6 => .array .int
  | 7 => .array .int
  | 8 => .array .boolean
  | 9 => .array .boolean
  | 10 => .array .int
  | 11 => .int
  | 12 => .int
  | _ => .int
theorem xnM_ST : ∀ a, a < 14 → ∀ b, b < 14 → a ≠ b → (xnT_ST a).2.1 ≠ (xnT_ST b).2.1 := by decide +kernel
theorem xnO_ST : ∀ k, k < 14 → parseFieldDescriptor (xnT_ST k).2.2.1 = some (xnK_ST k) := by decide +kernel
def xnT_WR : u_T := fun k => match k with
  | 0 => ("SteppedCache$Writer", "store", "LSteppedCache$Store;", true)
  | 1 => ("SteppedCache$Writer", "tally", "LSteppedCache$Tally;", true)
  | 2 => ("SteppedCache$Writer", "path", "LSteppedCache$Path;", true)
  | 3 => ("SteppedCache$Writer", "outcome", "I", false)
  | 4 => ("SteppedCache$Writer", "hand", "I", false)
  | 5 => ("SteppedCache$Writer", "kind", "I", false)
  | 6 => ("SteppedCache$Writer", "key", "I", false)
  | 7 => ("SteppedCache$Writer", "newValue", "I", false)
  | 8 => ("SteppedCache$Writer", "life", "I", false)
  | 9 => ("SteppedCache$Writer", "knownToken", "I", false)
  | 10 => ("SteppedCache$Writer", "next", "I", false)
  | 11 => ("SteppedCache$Writer", "changed", "I", false)
  | _ => ("SteppedCache$Writer", "moving", "I", false)
def xnK_WR : Nat → FieldType := fun k => match k with
  | 0 => .object "SteppedCache$Store"
  | 1 => .object "SteppedCache$Tally"
  | 2 => .object "SteppedCache$Path"
  | 3 => .int
  | 4 => .int
  | 5 => .int
  | 6 => .int
  | 7 => .int
  | 8 => .int
  | 9 => .int
  | 10 => .int
  | 11 => .int
  | _ => .int
theorem xnM_WR : ∀ a, a < 13 → ∀ b, b < 13 → a ≠ b → (xnT_WR a).2.1 ≠ (xnT_WR b).2.1 := by decide +kernel
theorem xnO_WR : ∀ k, k < 13 → parseFieldDescriptor (xnT_WR k).2.2.1 = some (xnK_WR k) := by decide +kernel
def xnT_PA : u_T := fun k => match k with
  | 0 => ("SteppedCache$Path", "store", "LSteppedCache$Store;", true)
  | 1 => ("SteppedCache$Path", "stops", "[I", true)
  | 2 => ("SteppedCache$Path", "length", "I", false)
  | 3 => ("SteppedCache$Path", "queue", "[I", true)
  | 4 => ("SteppedCache$Path", "before", "[I", true)
  | 5 => ("SteppedCache$Path", "depths", "[I", true)
  | _ => ("SteppedCache$Path", "queued", "I", false)
def xnK_PA : Nat → FieldType := fun k => match k with
  | 0 => .object "SteppedCache$Store"
  | 1 => .array .int
  | 2 => .int
  | 3 => .array .int
  | 4 => .array .int
  | 5 => .array .int
  | _ => .int
theorem xnM_PA : ∀ a, a < 7 → ∀ b, b < 7 → a ≠ b → (xnT_PA a).2.1 ≠ (xnT_PA b).2.1 := by decide +kernel
theorem xnO_PA : ∀ k, k < 7 → parseFieldDescriptor (xnT_PA k).2.2.1 = some (xnK_PA k) := by decide +kernel
def xnT_RD : u_T := fun k => match k with
  | 0 => ("SteppedCache$Reader", "store", "LSteppedCache$Store;", true)
  | 1 => ("SteppedCache$Reader", "writer", "LSteppedCache$Writer;", true)
  | 2 => ("SteppedCache$Reader", "tally", "LSteppedCache$Tally;", true)
  | 3 => ("SteppedCache$Reader", "state", "I", false)
  | 4 => ("SteppedCache$Reader", "copiedValue", "I", false)
  | 5 => ("SteppedCache$Reader", "copiedToken", "I", false)
  | 6 => ("SteppedCache$Reader", "key", "I", false)
  | 7 => ("SteppedCache$Reader", "retries", "I", false)
  | 8 => ("SteppedCache$Reader", "keptVersion", "I", false)
  | 9 => ("SteppedCache$Reader", "keptItem", "I", false)
  | _ => ("SteppedCache$Reader", "copiedExpiry", "I", false)
def xnK_RD : Nat → FieldType := fun k => match k with
  | 0 => .object "SteppedCache$Store"
  | 1 => .object "SteppedCache$Writer"
  | 2 => .object "SteppedCache$Tally"
  | 3 => .int
  | 4 => .int
  | 5 => .int
  | 6 => .int
  | 7 => .int
  | 8 => .int
  | 9 => .int
  | _ => .int
theorem xnM_RD : ∀ a, a < 11 → ∀ b, b < 11 → a ≠ b → (xnT_RD a).2.1 ≠ (xnT_RD b).2.1 := by decide +kernel
theorem xnO_RD : ∀ k, k < 11 → parseFieldDescriptor (xnT_RD k).2.2.1 = some (xnK_RD k) := by decide +kernel
def xnT_MO : u_T := fun k => match k with
  | 0 => ("SteppedCacheModel", "items", "I", false)
  | 1 => ("SteppedCacheModel", "ways", "I", false)
  | 2 => ("SteppedCacheModel", "time", "I", false)
  | 3 => ("SteppedCacheModel", "hand", "I", false)
  | 4 => ("SteppedCacheModel", "tokens", "I", false)
  | 5 => ("SteppedCacheModel", "held", "[I", true)
  | 6 => ("SteppedCacheModel", "taken", "[Z", true)
  | 7 => ("SteppedCacheModel", "keys", "[I", true)
  | 8 => ("SteppedCacheModel", "values", "[I", true)
  | 9 => ("SteppedCacheModel", "marks", "[I", true)
  | 10 => ("SteppedCacheModel", "ends", "[I", true)
  | 11 => ("SteppedCacheModel", "bits", "[Z", true)
  | 12 => ("SteppedCacheModel", "versions", "[I", true)
  | 13 => ("SteppedCacheModel", "next", "I", false)
  | 14 => ("SteppedCacheModel", "result", "I", false)
  | 15 => ("SteppedCacheModel", "kind", "I", false)
  | 16 => ("SteppedCacheModel", "key", "I", false)
  | 17 => ("SteppedCacheModel", "put", "I", false)
  | 18 => ("SteppedCacheModel", "life", "I", false)
  | 19 => ("SteppedCacheModel", "wanted", "I", false)
  | 20 => ("SteppedCacheModel", "target", "I", false)
  | 21 => ("SteppedCacheModel", "last", "I", false)
  | 22 => ("SteppedCacheModel", "from", "I", false)
  | 23 => ("SteppedCacheModel", "path", "[I", true)
  | 24 => ("SteppedCacheModel", "states", "[I", true)
  | 25 => ("SteppedCacheModel", "sought", "[I", true)
  | 26 => ("SteppedCacheModel", "kept", "[I", true)
  | 27 => ("SteppedCacheModel", "retries", "[I", true)
  | 28 => ("SteppedCacheModel", "got", "[I", true)
  | 29 => ("SteppedCacheModel", "copied", "[I", true)
  | 30 => ("SteppedCacheModel", "copiedMark", "[I", true)
  | 31 => ("SteppedCacheModel", "copiedEnd", "[I", true)
  | 32 => ("SteppedCacheModel", "evictions", "I", false)
  | 33 => ("SteppedCacheModel", "moves", "I", false)
  | 34 => ("SteppedCacheModel", "allRetries", "I", false)
  | 35 => ("SteppedCacheModel", "waits", "I", false)
  | 36 => ("SteppedCacheModel", "near", "I", false)
  | _ => ("SteppedCacheModel", "dead", "I", false)
def xnK_MO : Nat → FieldType := fun k => match k with
  | 0 => .int
  | 1 => .int
  | 2 => .int
  | 3 => .int
  | 4 => .int
  | 5 => .array .int
  | 6 => .array .boolean
  | 7 => .array .int
  | 8 => .array .int
  | 9 => .array .int
  | 10 => .array .int
  | 11 => .array .boolean
  | 12 => .array .int
  | 13 => .int
  | 14 => .int
  | 15 => .int
  | 16 => .int
  | 17 => .int
  | 18 => .int
  | 19 => .int
  | 20 => .int
  | 21 => .int
  | 22 => .int
  | 23 => .array .int
  | 24 => .array .int
  | 25 => .array .int
  | 26 => .array .int
  | 27 => .array .int
  | 28 => .array .int
  | 29 => .array .int
  | 30 => .array .int
  | 31 => .array .int
  | 32 => .int
  | 33 => .int
  | 34 => .int
  | 35 => .int
  | 36 => .int
  | _ => .int
theorem xnM_MO : ∀ a, a < 38 → ∀ b, b < 38 → a ≠ b → (xnT_MO a).2.1 ≠ (xnT_MO b).2.1 := by decide +kernel
theorem xnO_MO : ∀ k, k < 38 → parseFieldDescriptor (xnT_MO k).2.2.1 = some (xnK_MO k) := by decide +kernel
abbrev vwCl : List vw_C := [(xnR_SC, xnT_SC, 4), (xnR_TA, xnT_TA, 6), (xnR_ST, xnT_ST, 14), (xnR_WR, xnT_WR, 13), (xnR_PA, xnT_PA, 7), (xnR_RD, xnT_RD, 11), (xnR_MO, xnT_MO, 38)]
abbrev xnc_SC_init : ByteArray := prog_1_method_1_code
def xny_SC_init : MethodName := ⟨xnR_SC, "<init>", "(II)V"⟩
abbrev xnc_TA_init : ByteArray := prog_5_method_1_code
def xny_TA_init : MethodName := ⟨xnR_TA, "<init>", "()V"⟩
abbrev xnc_SC_isWithin : ByteArray := prog_1_method_21_code
def xny_SC_isWithin : MethodName := ⟨xnR_SC, "isWithin", "(III)Z"⟩
abbrev xnc_ST_init : ByteArray := prog_4_method_1_code
def xny_ST_init : MethodName := ⟨xnR_ST, "<init>", "(IILSteppedCache$Tally;)V"⟩
abbrev xnc_AR_fill : ByteArray := prog_9_method_103_code
def xny_AR_fill : MethodName := ⟨xnR_AR, "fill", "([II)V"⟩
abbrev xnc_WR_init : ByteArray := prog_6_method_1_code
def xny_WR_init : MethodName := ⟨xnR_WR, "<init>", "(LSteppedCache$Store;LSteppedCache$Tally;)V"⟩
abbrev xnc_PA_init : ByteArray := prog_2_method_1_code
def xny_PA_init : MethodName := ⟨xnR_PA, "<init>", "(LSteppedCache$Store;)V"⟩
abbrev xnc_RD_init : ByteArray := prog_3_method_1_code
def xny_RD_init : MethodName := ⟨xnR_RD, "<init>", "(LSteppedCache$Store;LSteppedCache$Writer;LSteppedCache$Tally;)V"⟩
abbrev xnc_SC_write : ByteArray := prog_1_method_2_code
def xny_SC_write : MethodName := ⟨xnR_SC, "write", "(IIIII)Z"⟩
abbrev xnc_WR_isUnderWay : ByteArray := prog_6_method_2_code
def xny_WR_isUnderWay : MethodName := ⟨xnR_WR, "isUnderWay", "()Z"⟩
abbrev xnc_WR_begin : ByteArray := prog_6_method_3_code
def xny_WR_begin : MethodName := ⟨xnR_WR, "begin", "(IIIII)V"⟩
abbrev xnc_SC_work : ByteArray := prog_1_method_3_code
def xny_SC_work : MethodName := ⟨xnR_SC, "work", "(I)I"⟩
abbrev xnc_WR_goOn : ByteArray := prog_6_method_4_code
def xny_WR_goOn : MethodName := ⟨xnR_WR, "goOn", "()V"⟩
abbrev xnc_WR_lookUpKey : ByteArray := prog_6_method_5_code
def xny_WR_lookUpKey : MethodName := ⟨xnR_WR, "lookUpKey", "()V"⟩
abbrev xnc_ST_lookUp : ByteArray := prog_4_method_5_code
def xny_ST_lookUp : MethodName := ⟨xnR_ST, "lookUp", "(I)I"⟩
abbrev xnc_SC_firstBucket : ByteArray := prog_1_method_25_code
def xny_SC_firstBucket : MethodName := ⟨xnR_SC, "firstBucket", "(I)I"⟩
abbrev xnc_SC_mix : ByteArray := prog_1_method_22_code
def xny_SC_mix : MethodName := ⟨xnR_SC, "mix", "(I)I"⟩
abbrev xnc_ST_lookUpIn : ByteArray := prog_4_method_7_code
def xny_ST_lookUpIn : MethodName := ⟨xnR_ST, "lookUpIn", "(II)I"⟩
abbrev xnc_ST_findIn : ByteArray := prog_4_method_6_code
def xny_ST_findIn : MethodName := ⟨xnR_ST, "findIn", "(II)I"⟩
abbrev xnc_SC_tagOf : ByteArray := prog_1_method_23_code
def xny_SC_tagOf : MethodName := ⟨xnR_SC, "tagOf", "(I)I"⟩
abbrev xnc_SC_secondBucket : ByteArray := prog_1_method_26_code
def xny_SC_secondBucket : MethodName := ⟨xnR_SC, "secondBucket", "(I)I"⟩
abbrev xnc_SC_otherBucket : ByteArray := prog_1_method_27_code
def xny_SC_otherBucket : MethodName := ⟨xnR_SC, "otherBucket", "(II)I"⟩
abbrev xnc_ST_isOver : ByteArray := prog_4_method_3_code
def xny_ST_isOver : MethodName := ⟨xnR_ST, "isOver", "(I)Z"⟩
abbrev xnc_ST_remove : ByteArray := prog_4_method_10_code
def xny_ST_remove : MethodName := ⟨xnR_ST, "remove", "(I)V"⟩
abbrev xnc_ST_growVersion : ByteArray := prog_4_method_9_code
def xny_ST_growVersion : MethodName := ⟨xnR_ST, "growVersion", "(II)V"⟩
abbrev xnc_SC_stripeOf : ByteArray := prog_1_method_24_code
def xny_SC_stripeOf : MethodName := ⟨xnR_SC, "stripeOf", "(I)I"⟩
abbrev xnc_WR_chooseWhenFound : ByteArray := prog_6_method_6_code
def xny_WR_chooseWhenFound : MethodName := ⟨xnR_WR, "chooseWhenFound", "(I)V"⟩
abbrev xnc_WR_chooseWhenNotFound : ByteArray := prog_6_method_7_code
def xny_WR_chooseWhenNotFound : MethodName := ⟨xnR_WR, "chooseWhenNotFound", "()V"⟩
abbrev xnc_ST_isFull : ByteArray := prog_4_method_2_code
def xny_ST_isFull : MethodName := ⟨xnR_ST, "isFull", "()Z"⟩
abbrev xnc_WR_changeValue : ByteArray := prog_6_method_8_code
def xny_WR_changeValue : MethodName := ⟨xnR_WR, "changeValue", "()V"⟩
abbrev xnc_WR_changeToken : ByteArray := prog_6_method_9_code
def xny_WR_changeToken : MethodName := ⟨xnR_WR, "changeToken", "()V"⟩
abbrev xnc_ST_renew : ByteArray := prog_4_method_11_code
def xny_ST_renew : MethodName := ⟨xnR_ST, "renew", "(II)V"⟩
abbrev xnc_WR_evict : ByteArray := prog_6_method_10_code
def xny_WR_evict : MethodName := ⟨xnR_WR, "evict", "()V"⟩
abbrev xnc_WR_turnHand : ByteArray := prog_6_method_11_code
def xny_WR_turnHand : MethodName := ⟨xnR_WR, "turnHand", "()V"⟩
abbrev xnc_WR_seekPath : ByteArray := prog_6_method_12_code
def xny_WR_seekPath : MethodName := ⟨xnR_WR, "seekPath", "()V"⟩
abbrev xnc_PA_seek : ByteArray := prog_2_method_2_code
def xny_PA_seek : MethodName := ⟨xnR_PA, "seek", "(I)Z"⟩
abbrev xnc_PA_enter : ByteArray := prog_2_method_3_code
def xny_PA_enter : MethodName := ⟨xnR_PA, "enter", "(III)V"⟩
abbrev xnc_PA_keep : ByteArray := prog_2_method_4_code
def xny_PA_keep : MethodName := ⟨xnR_PA, "keep", "(I)V"⟩
abbrev xnc_WR_chooseMove : ByteArray := prog_6_method_13_code
def xny_WR_chooseMove : MethodName := ⟨xnR_WR, "chooseMove", "()V"⟩
abbrev xnc_WR_moveOn : ByteArray := prog_6_method_14_code
def xny_WR_moveOn : MethodName := ⟨xnR_WR, "moveOn", "()V"⟩
abbrev xnc_WR_moveOff : ByteArray := prog_6_method_15_code
def xny_WR_moveOff : MethodName := ⟨xnR_WR, "moveOff", "()V"⟩
abbrev xnc_WR_insertKey : ByteArray := prog_6_method_16_code
def xny_WR_insertKey : MethodName := ⟨xnR_WR, "insertKey", "()V"⟩
abbrev xnc_ST_insert : ByteArray := prog_4_method_13_code
def xny_ST_insert : MethodName := ⟨xnR_ST, "insert", "(IIII)V"⟩
abbrev xnc_ST_lowestFree : ByteArray := prog_4_method_12_code
def xny_ST_lowestFree : MethodName := ⟨xnR_ST, "lowestFree", "()I"⟩
abbrev xnc_SC_outcome : ByteArray := prog_1_method_4_code
def xny_SC_outcome : MethodName := ⟨xnR_SC, "outcome", "()I"⟩
abbrev xnc_SC_get : ByteArray := prog_1_method_5_code
def xny_SC_get : MethodName := ⟨xnR_SC, "get", "(II)Z"⟩
abbrev xnc_SC_isReader : ByteArray := prog_1_method_20_code
def xny_SC_isReader : MethodName := ⟨xnR_SC, "isReader", "(I)Z"⟩
abbrev xnc_RD_isUnderWay : ByteArray := prog_3_method_2_code
def xny_RD_isUnderWay : MethodName := ⟨xnR_RD, "isUnderWay", "()Z"⟩
abbrev xnc_RD_begin : ByteArray := prog_3_method_3_code
def xny_RD_begin : MethodName := ⟨xnR_RD, "begin", "(I)V"⟩
abbrev xnc_SC_step : ByteArray := prog_1_method_6_code
def xny_SC_step : MethodName := ⟨xnR_SC, "step", "(I)I"⟩
abbrev xnc_RD_goOn : ByteArray := prog_3_method_4_code
def xny_RD_goOn : MethodName := ⟨xnR_RD, "goOn", "()V"⟩
abbrev xnc_RD_keepVersion : ByteArray := prog_3_method_5_code
def xny_RD_keepVersion : MethodName := ⟨xnR_RD, "keepVersion", "()V"⟩
abbrev xnc_ST_versionFor : ByteArray := prog_4_method_8_code
def xny_ST_versionFor : MethodName := ⟨xnR_ST, "versionFor", "(I)I"⟩
abbrev xnc_RD_lookInto : ByteArray := prog_3_method_6_code
def xny_RD_lookInto : MethodName := ⟨xnR_RD, "lookInto", "(II)V"⟩
abbrev xnc_RD_copyItem : ByteArray := prog_3_method_7_code
def xny_RD_copyItem : MethodName := ⟨xnR_RD, "copyItem", "()V"⟩
abbrev xnc_RD_checkVersion : ByteArray := prog_3_method_8_code
def xny_RD_checkVersion : MethodName := ⟨xnR_RD, "checkVersion", "()V"⟩
abbrev xnc_RD_end : ByteArray := prog_3_method_10_code
def xny_RD_end : MethodName := ⟨xnR_RD, "end", "(Z)V"⟩
abbrev xnc_RD_readLocked : ByteArray := prog_3_method_9_code
def xny_RD_readLocked : MethodName := ⟨xnR_RD, "readLocked", "()V"⟩
abbrev xnc_SC_state : ByteArray := prog_1_method_7_code
def xny_SC_state : MethodName := ⟨xnR_SC, "state", "(I)I"⟩
abbrev xnc_SC_value : ByteArray := prog_1_method_8_code
def xny_SC_value : MethodName := ⟨xnR_SC, "value", "(I)I"⟩
abbrev xnc_SC_isHit : ByteArray := prog_1_method_19_code
def xny_SC_isHit : MethodName := ⟨xnR_SC, "isHit", "(I)Z"⟩
abbrev xnc_SC_token : ByteArray := prog_1_method_9_code
def xny_SC_token : MethodName := ⟨xnR_SC, "token", "(I)I"⟩
abbrev xnc_SC_pass : ByteArray := prog_1_method_10_code
def xny_SC_pass : MethodName := ⟨xnR_SC, "pass", "(I)Z"⟩
abbrev xnc_SC_where : ByteArray := prog_1_method_11_code
def xny_SC_where : MethodName := ⟨xnR_SC, "where", "(I)I"⟩
abbrev xnc_ST_find : ByteArray := prog_4_method_4_code
def xny_ST_find : MethodName := ⟨xnR_ST, "find", "(I)I"⟩
abbrev xnc_SC_at : ByteArray := prog_1_method_12_code
def xny_SC_at : MethodName := ⟨xnR_SC, "at", "(I)I"⟩
abbrev xnc_SC_item : ByteArray := prog_1_method_13_code
def xny_SC_item : MethodName := ⟨xnR_SC, "item", "(II)I"⟩
abbrev xnc_SC_isUsedItem : ByteArray := prog_1_method_18_code
def xny_SC_isUsedItem : MethodName := ⟨xnR_SC, "isUsedItem", "(I)Z"⟩
abbrev xnc_SC_used : ByteArray := prog_1_method_14_code
def xny_SC_used : MethodName := ⟨xnR_SC, "used", "(I)Z"⟩
abbrev xnc_SC_version : ByteArray := prog_1_method_15_code
def xny_SC_version : MethodName := ⟨xnR_SC, "version", "(I)I"⟩
abbrev xnc_SC_hash : ByteArray := prog_1_method_16_code
def xny_SC_hash : MethodName := ⟨xnR_SC, "hash", "(I)I"⟩
abbrev xnc_SC_count : ByteArray := prog_1_method_17_code
def xny_SC_count : MethodName := ⟨xnR_SC, "count", "(I)I"⟩
abbrev xnc_LW_cell : ByteArray := method_2_code
def xny_LW_cell : MethodName := ⟨xnR_LW, "cell", "([II)I"⟩
abbrev xnc_MO_init : ByteArray := prog_8_method_1_code
def xny_MO_init : MethodName := ⟨xnR_MO, "<init>", "(II)V"⟩
abbrev xnc_MO_hash : ByteArray := prog_8_method_6_code
def xny_MO_hash : MethodName := ⟨xnR_MO, "hash", "(I)I"⟩
abbrev xnc_MO_bucket : ByteArray := prog_8_method_5_code
def xny_MO_bucket : MethodName := ⟨xnR_MO, "bucket", "(II)I"⟩
abbrev xnc_MO_mix : ByteArray := prog_8_method_2_code
def xny_MO_mix : MethodName := ⟨xnR_MO, "mix", "(I)I"⟩
abbrev xnc_MO_tag : ByteArray := prog_8_method_3_code
def xny_MO_tag : MethodName := ⟨xnR_MO, "tag", "(I)I"⟩
abbrev xnc_MO_stripe : ByteArray := prog_8_method_4_code
def xny_MO_stripe : MethodName := ⟨xnR_MO, "stripe", "(I)I"⟩
abbrev xnc_MO_where : ByteArray := prog_8_method_10_code
def xny_MO_where : MethodName := ⟨xnR_MO, "where", "(I)I"⟩
abbrev xnc_MO_search : ByteArray := prog_8_method_7_code
def xny_MO_search : MethodName := ⟨xnR_MO, "search", "(II)I"⟩
abbrev xnc_MO_write : ByteArray := prog_8_method_14_code
def xny_MO_write : MethodName := ⟨xnR_MO, "write", "(IIIII)Z"⟩
abbrev xnc_MO_work : ByteArray := prog_8_method_15_code
def xny_MO_work : MethodName := ⟨xnR_MO, "work", "(I)I"⟩
abbrev xnc_MO_one : ByteArray := prog_8_method_18_code
def xny_MO_one : MethodName := ⟨xnR_MO, "one", "()V"⟩
abbrev xnc_MO_begin : ByteArray := prog_8_method_20_code
def xny_MO_begin : MethodName := ⟨xnR_MO, "begin", "()V"⟩
abbrev xnc_MO_lookBoth : ByteArray := prog_8_method_9_code
def xny_MO_lookBoth : MethodName := ⟨xnR_MO, "lookBoth", "(I)I"⟩
abbrev xnc_MO_look : ByteArray := prog_8_method_8_code
def xny_MO_look : MethodName := ⟨xnR_MO, "look", "(II)I"⟩
abbrev xnc_MO_over : ByteArray := prog_8_method_11_code
def xny_MO_over : MethodName := ⟨xnR_MO, "over", "(I)Z"⟩
abbrev xnc_MO_remove : ByteArray := prog_8_method_12_code
def xny_MO_remove : MethodName := ⟨xnR_MO, "remove", "(I)V"⟩
abbrev xnc_MO_finish : ByteArray := prog_8_method_17_code
def xny_MO_finish : MethodName := ⟨xnR_MO, "finish", "(I)V"⟩
abbrev xnc_MO_many : ByteArray := prog_8_method_13_code
def xny_MO_many : MethodName := ⟨xnR_MO, "many", "()I"⟩
abbrev xnc_MO_stamp : ByteArray := prog_8_method_19_code
def xny_MO_stamp : MethodName := ⟨xnR_MO, "stamp", "(I)V"⟩
abbrev xnc_MO_evict : ByteArray := prog_8_method_21_code
def xny_MO_evict : MethodName := ⟨xnR_MO, "evict", "()V"⟩
abbrev xnc_MO_seek : ByteArray := prog_8_method_23_code
def xny_MO_seek : MethodName := ⟨xnR_MO, "seek", "()V"⟩
abbrev xnc_MO_leads : ByteArray := prog_8_method_22_code
def xny_MO_leads : MethodName := ⟨xnR_MO, "leads", "(II)Z"⟩
abbrev xnc_MO_move : ByteArray := prog_8_method_24_code
def xny_MO_move : MethodName := ⟨xnR_MO, "move", "()V"⟩
abbrev xnc_MO_enter : ByteArray := prog_8_method_25_code
def xny_MO_enter : MethodName := ⟨xnR_MO, "enter", "()V"⟩
abbrev xnc_MO_outcome : ByteArray := prog_8_method_16_code
def xny_MO_outcome : MethodName := ⟨xnR_MO, "outcome", "()I"⟩
abbrev xnc_MO_get : ByteArray := prog_8_method_28_code
def xny_MO_get : MethodName := ⟨xnR_MO, "get", "(II)Z"⟩
abbrev xnc_MO_reader : ByteArray := prog_8_method_26_code
def xny_MO_reader : MethodName := ⟨xnR_MO, "reader", "(I)Z"⟩
abbrev xnc_MO_reading : ByteArray := prog_8_method_27_code
def xny_MO_reading : MethodName := ⟨xnR_MO, "reading", "(I)Z"⟩
abbrev xnc_MO_step : ByteArray := prog_8_method_29_code
def xny_MO_step : MethodName := ⟨xnR_MO, "step", "(I)I"⟩
abbrev xnc_MO_keep : ByteArray := prog_8_method_30_code
def xny_MO_keep : MethodName := ⟨xnR_MO, "keep", "(II)V"⟩
abbrev xnc_MO_find : ByteArray := prog_8_method_31_code
def xny_MO_find : MethodName := ⟨xnR_MO, "find", "(II)V"⟩
abbrev xnc_MO_copy : ByteArray := prog_8_method_32_code
def xny_MO_copy : MethodName := ⟨xnR_MO, "copy", "(I)V"⟩
abbrev xnc_MO_check : ByteArray := prog_8_method_33_code
def xny_MO_check : MethodName := ⟨xnR_MO, "check", "(I)V"⟩
abbrev xnc_MO_locked : ByteArray := prog_8_method_34_code
def xny_MO_locked : MethodName := ⟨xnR_MO, "locked", "(I)V"⟩
abbrev xnc_MO_state : ByteArray := prog_8_method_35_code
def xny_MO_state : MethodName := ⟨xnR_MO, "state", "(I)I"⟩
abbrev xnc_MO_value : ByteArray := prog_8_method_36_code
def xny_MO_value : MethodName := ⟨xnR_MO, "value", "(I)I"⟩
abbrev xnc_MO_token : ByteArray := prog_8_method_37_code
def xny_MO_token : MethodName := ⟨xnR_MO, "token", "(I)I"⟩
abbrev xnc_MO_pass : ByteArray := prog_8_method_38_code
def xny_MO_pass : MethodName := ⟨xnR_MO, "pass", "(I)Z"⟩
abbrev xnc_MO_at : ByteArray := prog_8_method_39_code
def xny_MO_at : MethodName := ⟨xnR_MO, "at", "(I)I"⟩
abbrev xnc_MO_used : ByteArray := prog_8_method_40_code
def xny_MO_used : MethodName := ⟨xnR_MO, "used", "(I)Z"⟩
abbrev xnc_MO_item : ByteArray := prog_8_method_41_code
def xny_MO_item : MethodName := ⟨xnR_MO, "item", "(II)I"⟩
abbrev xnc_MO_version : ByteArray := prog_8_method_42_code
def xny_MO_version : MethodName := ⟨xnR_MO, "version", "(I)I"⟩
abbrev xnc_MO_count : ByteArray := prog_8_method_43_code
def xny_MO_count : MethodName := ⟨xnR_MO, "count", "(I)I"⟩
abbrev xnc_LW_law : ByteArray := code
def xny_LW_law : MethodName := ⟨xnR_LW, "law", "([I)Z"⟩
end
section
/-! The frame of all walks: one world function, a body's judgement xf_V, contracts xf_M over all words of the tables. -/
abbrev xf_T : Type := (Nat → Int32) × (Nat → Nat → Int32)
/-- the class's numbers, and the reference's -/
abbrev xf_S : Type := xf_T × xf_T
/-- a scalar is set -/
def xf_I (σ : xf_T) (k : Nat) (v : Int32) : xf_T := (upd σ.1 k v, σ.2)
/-- an element of array j is set -/
def xf_A (σ : xf_T) (j i : Nat) (v : Int32) : xf_T := (σ.1, fun k => if k = j then upd (σ.2 j) i v else σ.2 k)
def xf_nest : Cond → Bool
  | .methodLinkNest .. => true
  | .fieldLinkNest .. => true
  | _ => false
def xf_GW : List Cond := lw_tbl.filter goodWord
def xf_NL : List Cond := lw_tbl.filter xf_nest
def xf_NW (U : State) : Prop := ∀ w ∈ xf_NL, va_Nw w U
theorem xf_NW_warm {s U : State} (hW : s.WarmedH U.vm) (h : xf_NW s) : xf_NW U := fun w hw => by
  have hk := (List.mem_filter.mp hw).2
  have h0 := h w hw
  cases w <;> first | exact va_Nw.warmF hW h0 | exact va_Nw.warmM hW h0 | (simp [xf_nest] at hk)
theorem xf_NW_vm {s U : State} (hW : s.vm = U.vm) (h : xf_NW s) : xf_NW U := fun w hw => by
  have hk := (List.mem_filter.mp hw).2
  have h0 := h w hw
  cases w <;> first | exact va_Nw.same rfl hW h0 | (simp [xf_nest] at hk)
theorem xf_good {y : MethodName} {cc : ByteArray} {nL : Nat} {ret : Option FieldType} (h : Cond.code y cc nL ret ∈ xf_GW) : GoodIn xf_GW (.code y cc nL ret :: xf_GW) := by
  intro w hw
  have hg : w ∈ xf_GW := by
    rcases List.mem_cons.mp hw with rfl | h1
    · exact h
    · exact h1
  exact ⟨hg, good_of_word (List.mem_filter.mp hg).2⟩
/-! locals: the k-th entry is what local k holds, if that is known -/
def xf_pr : Nat → List (Option Value) → List (Nat × Value)
  | _, [] => []
  | k, none :: r => xf_pr (k + 1) r
  | k, some v :: r => (k, v) :: xf_pr (k + 1) r
theorem xf_pr_mem : ∀ (L : List (Option Value)) (k : Nat) (q : Nat × Value), q ∈ xf_pr k L ↔ ∃ j, L[j]? = some (some q.2) ∧ q.1 = k + j
  | [], k, q => by simp [xf_pr]
  | none :: r, k, q => by
    rw [xf_pr, xf_pr_mem r (k + 1) q]
    constructor
    · rintro ⟨j, h1, h2⟩
      exact ⟨j + 1, by simpa using h1, by omega⟩
    · rintro ⟨j, h1, h2⟩
      cases j with
      | zero => simp at h1
      | succ j => exact ⟨j, by simpa using h1, by omega⟩
  | some v :: r, k, q => by
    rw [xf_pr, List.mem_cons, xf_pr_mem r (k + 1) q]
    constructor
    · rintro (rfl | ⟨j, h1, h2⟩)
      · exact ⟨0, by simp, by simp⟩
      · exact ⟨j + 1, by simpa using h1, by omega⟩
    · rintro ⟨j, h1, h2⟩
      cases j with
      | zero =>
        left
        obtain ⟨a, b⟩ := q
        simp at h1 h2
        rw [h1, h2]
      | succ j => exact Or.inr ⟨j, by simpa using h1, by omega⟩
def xf_has (ls : Array Slot) (nL : Nat) (L : List (Option Value)) : Prop := lv_has ls nL (xf_pr 0 L) ∧ ∀ (j : Nat) (v : Value), L[j]? = some (some v) → v.category = 1
theorem xf_has.at {ls : Array Slot} {nL : Nat} {L : List (Option Value)} (h : xf_has ls nL L) {k : Nat} {v : Value} (hk : L[k]? = some (some v)) : ls[k]? = some (.val v) :=
  h.1.2.2 (k, v) ((xf_pr_mem L 0 (k, v)).mpr ⟨k, hk, by simp⟩)
theorem xf_has.set {ls : Array Slot} {nL : Nat} {L : List (Option Value)} {i : Nat} {v : Value} (hL : xf_has ls nL L) (hc : v.category = 1) {ls' : Array Slot} (h' : lv_has ls' nL ((i, v) :: (xf_pr 0 L).filter (fun q => !(q.1 == i) && !(q.1 + 1 == i && q.2.category == 2)))) : xf_has ls' nL (L.set i (some v)) := by
  have key : ∀ (j : Nat) (u : Value), (L.set i (some v))[j]? = some (some u) → (j = i ∧ u = v) ∨ (j ≠ i ∧ L[j]? = some (some u)) := by
    intro j u hj
    by_cases hji : j = i
    · subst hji
      by_cases hl : j < L.length
      · rw [List.getElem?_set_self hl] at hj
        exact Or.inl ⟨rfl, (Option.some.inj (Option.some.inj hj)).symm⟩
      · rw [List.getElem?_eq_none (by simpa using hl)] at hj
        cases hj
    · rw [List.getElem?_set_ne (Ne.symm hji)] at hj
      exact Or.inr ⟨hji, hj⟩
  refine ⟨⟨h'.1, h'.2.1, fun q hq => ?_⟩, fun j u hj => ?_⟩
  · obtain ⟨j, h1, h2⟩ := (xf_pr_mem _ 0 q).mp hq
    have hq1 : q.1 = j := by omega
    rcases key j q.2 h1 with ⟨e1, e2⟩ | ⟨e1, e2⟩
    · have : q = (i, v) := by
        obtain ⟨a, b⟩ := q
        simp at hq1 e2
        rw [hq1, e1, e2]
      rw [this]
      exact h'.2.2 (i, v) List.mem_cons_self
    · refine h'.2.2 q (List.mem_cons_of_mem _ (List.mem_filter.mpr ⟨(xf_pr_mem L 0 q).mpr ⟨j, e2, by omega⟩, ?_⟩))
      have hc1 := hL.2 j q.2 e2
      have : ¬ q.1 = i := by rw [hq1]; exact e1
      simp [this, hc1]
  · rcases key j u hj with ⟨e1, e2⟩ | ⟨e1, e2⟩
    · rw [e2]; exact hc
    · exact hL.2 j u e2
/-! a body's fixed things, in one -/
abbrev xf_C : Type := Program × Launch × Env × Room × State × MethodId × Array Value × List Frame × Method × Code × (Nat → Prop) × (State → Prop) × va_G × List (ClassId × FieldType) × (xf_S → va_W) × Nat × Nat × Nat
/-- from here, whatever the heap that holds the world, the machine comes to its end -/
def xf_V (X : xf_C) (pc : Nat) (L : List (Option Value)) (st : List Value) (σ : xf_S) : Prop := match X with
  | (p, l, e, R, s, m, args, below, meth, c, A, Q, D, tys, wf, nL, cells, slots) => ∀ (H : Heap) (locs : List Loc) (ls : Array Slot), va_P D vwCl (wf σ) H → va_D A (wf σ) → va_S A s.heap H locs → xf_has ls nL L → W p l e R s m args below meth c H locs cells slots Q (F0 m pc ls st)
def xf_ok (X : xf_C) (l0 : Launch) (own : String) (cc : ByteArray) (nL0 fr lo : Nat) (wf0 : xf_S → va_W) (D0 : va_G) (tys0 : List (ClassId × FieldType)) : Prop := match X with
  | (p, l, e, R, s, m, args, below, meth, c, A, Q, D, tys, wf, nL, cells, slots) => (l = l0 ∧ nL = nL0 ∧ wf = wf0 ∧ D = D0 ∧ tys = tys0) ∧ p.tables.exec = Jvm.exec ∧ c.code = cc ∧ c.maxLocals = nL ∧ s.vm.findClass own = some m.cls ∧ (∀ w ∈ xf_GW, w.before args s = true) ∧ va_K D vwCl tys s ∧ xf_NW s ∧ (∀ q : Nat, s.heap.size ≤ q → A q) ∧ (R.frames = fr ∧ R.locals = lo) ∧ cells ≤ R.cells ∧ slots ≤ R.slots
def xf_Qc (D : va_G) (tys : List (ClassId × FieldType)) (wf : xf_S → va_W) (A : Nat → Prop) (rq : Option Value → xf_S → Prop) : Array Value → State → Outcome → State → Prop := fun _ st oc t => (∃ (v : Option Value) (u : xf_S), oc = .returned v ∧ rq v u ∧ va_P D vwCl (wf u) t.heap ∧ va_K D vwCl tys t ∧ va_D A (wf u)) ∧ va_F A st t
def xf_end (X : xf_C) (ret : Option FieldType) (rq : Option Value → xf_S → Prop) : Prop := match X with
  | (p, l, e, R, s, m, args, below, meth, c, A, Q, D, tys, wf, nL, cells, slots) => meth.sig.returnType = ret ∧ meth.locks = false ∧ Q = MQ below (xf_Qc D tys wf A rq) args s cells slots A
/-- a contract: from the world σ and the arguments av, the method comes back with rq -/
def xf_M (l : Launch) (y : MethodName) (cc : ByteArray) (nL : Nat) (ret : Option FieldType) (fr lo : Nat) (wf : xf_S → va_W) (D : va_G) (tys : List (ClassId × FieldType)) (av : List Value) (σ : xf_S) (rq : Option Value → xf_S → Prop) : Prop :=
  ∀ sz : Nat, Met l y (.code y cc nL ret :: xf_GW) { frames := fr, cells := 0, slots := 0, locals := lo } (va_Pc av (fun U => U.heap.size = sz ∧ va_P D vwCl (wf σ) U.heap ∧ va_K D vwCl tys U ∧ va_D (fun _ => True) (wf σ) ∧ xf_NW U)) (xf_Qc D tys wf (va_A (wf σ) sz) rq) 0 0 (va_A (wf σ) sz)
/-- a contract that says all: the answer v, the world σ' -/
def xf_F (l : Launch) (y : MethodName) (cc : ByteArray) (nL : Nat) (ret : Option FieldType) (fr lo : Nat) (wf : xf_S → va_W) (D : va_G) (tys : List (ClassId × FieldType)) (av : List Value) (σ : xf_S) (v : Option Value) (σ' : xf_S) : Prop := xf_M l y cc nL ret fr lo wf D tys av σ (fun v' u => v' = v ∧ u = σ')
def xf_cats (L : List (Option Value)) : Bool := L.all (fun o => match o with
  | none => true
  | some v => v.category == 1)
theorem xf_cat {L : List (Option Value)} (h : xf_cats L = true) : ∀ (j : Nat) (v : Value), L[j]? = some (some v) → v.category = 1 := by
  intro j v hj
  have := List.all_eq_true.mp h _ (List.mem_of_getElem? hj)
  simpa using this
theorem xf_start {l : Launch} {y : MethodName} {cc : ByteArray} {nL : Nat} {ret : Option FieldType} {fr lo : Nat} {wf : xf_S → va_W} {D : va_G} {tys : List (ClassId × FieldType)} {av : List Value} {σ : xf_S} {rq : Option Value → xf_S → Prop} {own : String} (L : List (Option Value)) (ho : y.cls = own) (hy : plainName y.cls = true) (hn : (lg_sl av).length ≤ nL) (hL : xf_pr 0 L = lv_args 0 av) (hc : ∀ (j : Nat) (v : Value), L[j]? = some (some v) → v.category = 1)
    (body : ∀ X : xf_C, xf_ok X l own cc nL fr lo wf D tys → xf_end X ret rq → xf_V X 0 L [] σ) : xf_M l y cc nL ret fr lo wf D tys av σ rq := by
  subst ho
  intro sz
  refine Met.ofW (cc := cc) (maxL := nL) (ret := ret) hy rfl ?_
  intro p e s m args below meth c s₁ B hml hv
  obtain ⟨rfl, hsz, hP, hK, hD0, hN⟩ := hv
  subst hsz
  have hD := hD0.self (sz := s.heap.size)
  have hts := atoms_spec (ws := .code y cc nL ret :: xf_GW) B.pre
  have hl := lv_entry av (n := nL) hn
  rw [lg_entry_eq]
  have V := body (p, l, e, (headSpec (.code y cc nL ret :: xf_GW) ({ frames := fr, cells := 0, slots := 0, locals := lo } : Room)).room, s, m, av.toArray, below, meth, c, va_A (wf σ) s.heap.size, _, D, tys, wf, nL, 0, 0) ⟨⟨rfl, rfl, rfl, rfl, rfl⟩, B.exec, B.bytes, hml, findClass_of_methodNamed B.named, fun w hw => hts w (List.mem_cons_of_mem _ hw), hK, hN, fun q h => Or.inr h, ⟨rfl, rfl⟩, Nat.zero_le _, Nat.zero_le _⟩ ⟨B.returns, B.notSynchronized, rfl⟩
  exact V s.heap [] _ hP hD va_S.rf ⟨by rw [hL]; exact hl, hc⟩
section XFR
variable {X : xf_C} {l : Launch} {own : String} {cc : ByteArray} {nL fr lo : Nat} {wf : xf_S → va_W} {D : va_G} {tys : List (ClassId × FieldType)} {pc : Nat} {L : List (Option Value)} {st : List Value} {σ : xf_S}
theorem xf_iconst (hX : xf_ok X l own cc nL fr lo wf D tys) (np : Nat) (hp : pc + 1 = np) {n : Int} (v : Int32) (hd : decode cc pc = .ok (.iconst n, 1)) (hv : Int32.ofInt n = v) (k : xf_V X np L (.int v :: st) σ) : xf_V X pc L st σ := by
  subst hp
  obtain ⟨p, l, e, R, s, m, args, below, meth, c, A, Q, D, tys, wf, nL, cells, slots⟩ := X
  exact fun H locs ls hP hD hS hl => lv_iconst hX.2.1 hX.2.2.1 hd hv (k H locs ls hP hD hS hl)
theorem xf_bipush (hX : xf_ok X l own cc nL fr lo wf D tys) (np : Nat) (hp : pc + 2 = np) {n : Int} (v : Int32) (hd : decode cc pc = .ok (.bipush n, 2)) (hv : (Int8.ofInt n).toInt32 = v) (k : xf_V X np L (.int v :: st) σ) : xf_V X pc L st σ := by
  subst hp
  obtain ⟨p, l, e, R, s, m, args, below, meth, c, A, Q, D, tys, wf, nL, cells, slots⟩ := X
  exact fun H locs ls hP hD hS hl => lv_bipush hX.2.1 hX.2.2.1 hd hv (k H locs ls hP hD hS hl)
theorem xf_sipush (hX : xf_ok X l own cc nL fr lo wf D tys) (np : Nat) (hp : pc + 3 = np) {n : Int} (v : Int32) (hd : decode cc pc = .ok (.sipush n, 3)) (hv : (Int16.ofInt n).toInt32 = v) (k : xf_V X np L (.int v :: st) σ) : xf_V X pc L st σ := by
  subst hp
  obtain ⟨p, l, e, R, s, m, args, below, meth, c, A, Q, D, tys, wf, nL, cells, slots⟩ := X
  exact fun H locs ls hP hD hS hl => lv_sipush hX.2.1 hX.2.2.1 hd hv (k H locs ls hP hD hS hl)
theorem xf_ldc (hX : xf_ok X l own cc nL fr lo wf D tys) (np : Nat) (hp : pc + 2 = np) {idx : Nat} {v : Int32} (hw : Cond.constant own idx v ∈ xf_GW) (hd : decode cc pc = .ok (.ldc idx, 2)) (k : xf_V X np L (.int v :: st) σ) : xf_V X pc L st σ := by
  subst hp
  obtain ⟨p, l, e, R, s, m, args, below, meth, c, A, Q, D, tys, wf, nL, cells, slots⟩ := X
  exact fun H locs ls hP hD hS hl => lv_ldc hX.2.1 hX.2.2.1 hX.2.2.2.2.1 (hX.2.2.2.2.2.1 _ hw) hd (k H locs ls hP hD hS hl)
theorem xf_iload_n (hX : xf_ok X l own cc nL fr lo wf D tys) (np : Nat) (hp : pc + 1 = np) {k : Fin 4} (i : Nat) {x : Int32} (hd : decode cc pc = .ok (.iload_n k, 1)) (hi : (k : Nat) = i) (hk : L[i]? = some (some (.int x))) (kk : xf_V X np L (.int x :: st) σ) : xf_V X pc L st σ := by
  subst hp
  obtain ⟨p, l, e, R, s, m, args, below, meth, c, A, Q, D, tys, wf, nL, cells, slots⟩ := X
  exact fun H locs ls hP hD hS hl => lv_iload_n hX.2.1 hX.2.2.1 hd hi (hl.at hk) (kk H locs ls hP hD hS hl)
theorem xf_iload (hX : xf_ok X l own cc nL fr lo wf D tys) (np : Nat) (hp : pc + 2 = np) {i : Nat} {x : Int32} (hd : decode cc pc = .ok (.iload i, 2)) (hk : L[i]? = some (some (.int x))) (kk : xf_V X np L (.int x :: st) σ) : xf_V X pc L st σ := by
  subst hp
  obtain ⟨p, l, e, R, s, m, args, below, meth, c, A, Q, D, tys, wf, nL, cells, slots⟩ := X
  exact fun H locs ls hP hD hS hl => lv_iload hX.2.1 hX.2.2.1 hd (hl.at hk) (kk H locs ls hP hD hS hl)
theorem xf_aload_n (hX : xf_ok X l own cc nL fr lo wf D tys) (np : Nat) (hp : pc + 1 = np) {k : Fin 4} (i : Nat) {x : Nat} (hd : decode cc pc = .ok (.aload_n k, 1)) (hi : (k : Nat) = i) (hk : L[i]? = some (some (.ref x))) (kk : xf_V X np L (.ref x :: st) σ) : xf_V X pc L st σ := by
  subst hp
  obtain ⟨p, l, e, R, s, m, args, below, meth, c, A, Q, D, tys, wf, nL, cells, slots⟩ := X
  exact fun H locs ls hP hD hS hl => lv_aload_n hX.2.1 hX.2.2.1 hd hi (hl.at hk) (kk H locs ls hP hD hS hl)
theorem xf_aload (hX : xf_ok X l own cc nL fr lo wf D tys) (np : Nat) (hp : pc + 2 = np) {i : Nat} {x : Nat} (hd : decode cc pc = .ok (.aload i, 2)) (hk : L[i]? = some (some (.ref x))) (kk : xf_V X np L (.ref x :: st) σ) : xf_V X pc L st σ := by
  subst hp
  obtain ⟨p, l, e, R, s, m, args, below, meth, c, A, Q, D, tys, wf, nL, cells, slots⟩ := X
  exact fun H locs ls hP hD hS hl => lv_aload hX.2.1 hX.2.2.1 hd (hl.at hk) (kk H locs ls hP hD hS hl)
theorem xf_istore_n (hX : xf_ok X l own cc nL fr lo wf D tys) (np : Nat) (hp : pc + 1 = np) {k : Fin 4} (i : Nat) {x : Int32} (hd : decode cc pc = .ok (.istore_n k, 1)) (hi : (k : Nat) = i) (hn : i < nL) (kk : xf_V X np (L.set i (some (.int x))) st σ) : xf_V X pc L (.int x :: st) σ := by
  subst hp
  obtain ⟨p, l, e, R, s, m, args, below, meth, c, A, Q, D, tys, wf, nL', cells, slots⟩ := X
  obtain ⟨⟨h1, h2, h3, h4, h5⟩, hx, hb, -⟩ := hX
  subst h2
  exact fun H locs ls hP hD hS hl => lv_istore_n hx hb hd hi hl.1 hn rfl (fun ls' h' => kk H locs ls' hP hD hS (hl.set rfl h'))
theorem xf_istore (hX : xf_ok X l own cc nL fr lo wf D tys) (np : Nat) (hp : pc + 2 = np) {i : Nat} {x : Int32} (hd : decode cc pc = .ok (.istore i, 2)) (hn : i < nL) (kk : xf_V X np (L.set i (some (.int x))) st σ) : xf_V X pc L (.int x :: st) σ := by
  subst hp
  obtain ⟨p, l, e, R, s, m, args, below, meth, c, A, Q, D, tys, wf, nL', cells, slots⟩ := X
  obtain ⟨⟨h1, h2, h3, h4, h5⟩, hx, hb, -⟩ := hX
  subst h2
  exact fun H locs ls hP hD hS hl => lv_istore hx hb hd hl.1 hn rfl (fun ls' h' => kk H locs ls' hP hD hS (hl.set rfl h'))
theorem xf_iinc (hX : xf_ok X l own cc nL fr lo wf D tys) (np : Nat) (hp : pc + 3 = np) {i : Nat} {n : Int} {x : Int32} (v : Int32) (hd : decode cc pc = .ok (.iinc i n, 3)) (hk : L[i]? = some (some (.int x))) (hv : x + Int32.ofInt n = v) (hn : i < nL) (kk : xf_V X np (L.set i (some (.int v))) st σ) : xf_V X pc L st σ := by
  subst hp
  obtain ⟨p, l, e, R, s, m, args, below, meth, c, A, Q, D, tys, wf, nL', cells, slots⟩ := X
  obtain ⟨⟨h1, h2, h3, h4, h5⟩, hx, hb, -⟩ := hX
  subst h2
  intro H locs ls hP hD hS hl
  obtain ⟨k, hk2⟩ := List.getElem?_of_mem ((xf_pr_mem L 0 (i, .int x)).mpr ⟨i, hk, by simp⟩)
  exact lv_iinc hx hb hd hl.1 hk2 hv hn rfl (fun ls' h' => kk H locs ls' hP hD hS (hl.set rfl h'))
theorem xf_iadd (hX : xf_ok X l own cc nL fr lo wf D tys) (np : Nat) (hp : pc + 1 = np) {x y : Int32} (hd : decode cc pc = .ok (.iadd, 1)) (k : xf_V X np L (.int (x + y) :: st) σ) : xf_V X pc L (.int y :: .int x :: st) σ := by
  subst hp
  obtain ⟨p, l, e, R, s, m, args, below, meth, c, A, Q, D, tys, wf, nL, cells, slots⟩ := X
  exact fun H locs ls hP hD hS hl => lv_iadd hX.2.1 hX.2.2.1 hd (k H locs ls hP hD hS hl)
theorem xf_isub (hX : xf_ok X l own cc nL fr lo wf D tys) (np : Nat) (hp : pc + 1 = np) {x y : Int32} (hd : decode cc pc = .ok (.isub, 1)) (k : xf_V X np L (.int (x - y) :: st) σ) : xf_V X pc L (.int y :: .int x :: st) σ := by
  subst hp
  obtain ⟨p, l, e, R, s, m, args, below, meth, c, A, Q, D, tys, wf, nL, cells, slots⟩ := X
  exact fun H locs ls hP hD hS hl => lv_isub hX.2.1 hX.2.2.1 hd (k H locs ls hP hD hS hl)
theorem xf_imul (hX : xf_ok X l own cc nL fr lo wf D tys) (np : Nat) (hp : pc + 1 = np) {x y : Int32} (hd : decode cc pc = .ok (.imul, 1)) (k : xf_V X np L (.int (x * y) :: st) σ) : xf_V X pc L (.int y :: .int x :: st) σ := by
  subst hp
  obtain ⟨p, l, e, R, s, m, args, below, meth, c, A, Q, D, tys, wf, nL, cells, slots⟩ := X
  exact fun H locs ls hP hD hS hl => lv_imul hX.2.1 hX.2.2.1 hd (k H locs ls hP hD hS hl)
theorem xf_iand (hX : xf_ok X l own cc nL fr lo wf D tys) (np : Nat) (hp : pc + 1 = np) {x y : Int32} (hd : decode cc pc = .ok (.iand, 1)) (k : xf_V X np L (.int (x &&& y) :: st) σ) : xf_V X pc L (.int y :: .int x :: st) σ := by
  subst hp
  obtain ⟨p, l, e, R, s, m, args, below, meth, c, A, Q, D, tys, wf, nL, cells, slots⟩ := X
  exact fun H locs ls hP hD hS hl => lv_iand hX.2.1 hX.2.2.1 hd (k H locs ls hP hD hS hl)
theorem xf_ixor (hX : xf_ok X l own cc nL fr lo wf D tys) (np : Nat) (hp : pc + 1 = np) {x y : Int32} (hd : decode cc pc = .ok (.ixor, 1)) (k : xf_V X np L (.int (x ^^^ y) :: st) σ) : xf_V X pc L (.int y :: .int x :: st) σ := by
  subst hp
  obtain ⟨p, l, e, R, s, m, args, below, meth, c, A, Q, D, tys, wf, nL, cells, slots⟩ := X
  exact fun H locs ls hP hD hS hl => lv_ixor hX.2.1 hX.2.2.1 hd (k H locs ls hP hD hS hl)
theorem xf_idiv (hX : xf_ok X l own cc nL fr lo wf D tys) (np : Nat) (hp : pc + 1 = np) {x y : Int32} (hd : decode cc pc = .ok (.idiv, 1)) (h0 : ¬ y = 0) (k : xf_V X np L (.int (x / y) :: st) σ) : xf_V X pc L (.int y :: .int x :: st) σ := by
  subst hp
  obtain ⟨p, l, e, R, s, m, args, below, meth, c, A, Q, D, tys, wf, nL, cells, slots⟩ := X
  exact fun H locs ls hP hD hS hl => lv_idiv hX.2.1 hX.2.2.1 hd h0 (k H locs ls hP hD hS hl)
theorem xf_irem (hX : xf_ok X l own cc nL fr lo wf D tys) (np : Nat) (hp : pc + 1 = np) {x y : Int32} (hd : decode cc pc = .ok (.irem, 1)) (h0 : ¬ y = 0) (k : xf_V X np L (.int (x - x / y * y) :: st) σ) : xf_V X pc L (.int y :: .int x :: st) σ := by
  subst hp
  obtain ⟨p, l, e, R, s, m, args, below, meth, c, A, Q, D, tys, wf, nL, cells, slots⟩ := X
  exact fun H locs ls hP hD hS hl => lv_irem hX.2.1 hX.2.2.1 hd h0 (k H locs ls hP hD hS hl)
theorem xf_iushr (hX : xf_ok X l own cc nL fr lo wf D tys) (np : Nat) (hp : pc + 1 = np) {x y : Int32} (hd : decode cc pc = .ok (.iushr, 1)) (k : xf_V X np L (.int (x.toUInt32 >>> (y.toUInt32 &&& Int32.toUInt32 31)).toInt32 :: st) σ) : xf_V X pc L (.int y :: .int x :: st) σ := by
  subst hp
  obtain ⟨p, l, e, R, s, m, args, below, meth, c, A, Q, D, tys, wf, nL, cells, slots⟩ := X
  exact fun H locs ls hP hD hS hl => lv_iushr hX.2.1 hX.2.2.1 hd rfl (k H locs ls hP hD hS hl)
theorem xf_dup (hX : xf_ok X l own cc nL fr lo wf D tys) (np : Nat) (hp : pc + 1 = np) {v : Value} (hd : decode cc pc = .ok (.dup, 1)) (hv : v.category = 1) (k : xf_V X np L (v :: v :: st) σ) : xf_V X pc L (v :: st) σ := by
  subst hp
  obtain ⟨p, l, e, R, s, m, args, below, meth, c, A, Q, D, tys, wf, nL, cells, slots⟩ := X
  exact fun H locs ls hP hD hS hl => lv_dup hX.2.1 hX.2.2.1 hd hv (k H locs ls hP hD hS hl)
theorem xf_dup2 (hX : xf_ok X l own cc nL fr lo wf D tys) (np : Nat) (hp : pc + 1 = np) {v u : Value} (hd : decode cc pc = .ok (.dup2, 1)) (hv : v.category = 1) (hu : u.category = 1) (k : xf_V X np L (v :: u :: v :: u :: st) σ) : xf_V X pc L (v :: u :: st) σ := by
  subst hp
  obtain ⟨p, l, e, R, s, m, args, below, meth, c, A, Q, D, tys, wf, nL, cells, slots⟩ := X
  exact fun H locs ls hP hD hS hl => lv_dup2_11 hX.2.1 hX.2.2.1 hd hv hu (k H locs ls hP hD hS hl)
theorem xf_dup_x1 (hX : xf_ok X l own cc nL fr lo wf D tys) (np : Nat) (hp : pc + 1 = np) {v u : Value} (hd : decode cc pc = .ok (.dup_x1, 1)) (hv : v.category = 1) (hu : u.category = 1) (k : xf_V X np L (v :: u :: v :: st) σ) : xf_V X pc L (v :: u :: st) σ := by
  subst hp
  obtain ⟨p, l, e, R, s, m, args, below, meth, c, A, Q, D, tys, wf, nL, cells, slots⟩ := X
  exact fun H locs ls hP hD hS hl => lv_dup_x1 hX.2.1 hX.2.2.1 hd hv hu (k H locs ls hP hD hS hl)
theorem xf_pop (hX : xf_ok X l own cc nL fr lo wf D tys) (np : Nat) (hp : pc + 1 = np) {v : Value} (hd : decode cc pc = .ok (.pop, 1)) (hv : v.category = 1) (k : xf_V X np L st σ) : xf_V X pc L (v :: st) σ := by
  subst hp
  obtain ⟨p, l, e, R, s, m, args, below, meth, c, A, Q, D, tys, wf, nL, cells, slots⟩ := X
  exact fun H locs ls hP hD hS hl => lv_pop hX.2.1 hX.2.2.1 hd hv (k H locs ls hP hD hS hl)
theorem xf_goto (hX : xf_ok X l own cc nL fr lo wf D tys) {off : Int} (tgt : Nat) (hd : decode cc pc = .ok (.goto off, 3)) (ht : (pc : Int) + off = (tgt : Int)) (k : xf_V X tgt L st σ) : xf_V X pc L st σ := by
  obtain ⟨p, l, e, R, s, m, args, below, meth, c, A, Q, D, tys, wf, nL, cells, slots⟩ := X
  exact fun H locs ls hP hD hS hl => lv_goto hX.2.1 hX.2.2.1 hd ht (k H locs ls hP hD hS hl)
theorem xf_if_eq (hX : xf_ok X l own cc nL fr lo wf D tys) (np : Nat) (hp : pc + 3 = np) {x : Int32} {off : Int} (tgt : Nat) (hd : decode cc pc = .ok (.ifCond .eq off, 3)) (ht : (pc : Int) + off = (tgt : Int)) (kt : x = 0 → xf_V X tgt L st σ) (kf : ¬ x = 0 → xf_V X np L st σ) : xf_V X pc L (.int x :: st) σ := by
  subst hp
  obtain ⟨p, l, e, R, s, m, args, below, meth, c, A, Q, D, tys, wf, nL, cells, slots⟩ := X
  exact fun H locs ls hP hD hS hl => lv_if_eq hX.2.1 hX.2.2.1 hd ht (fun h => kt h H locs ls hP hD hS hl) (fun h => kf h H locs ls hP hD hS hl)
theorem xf_icmp_eq (hX : xf_ok X l own cc nL fr lo wf D tys) (np : Nat) (hp : pc + 3 = np) {x y : Int32} {off : Int} (tgt : Nat) (hd : decode cc pc = .ok (.if_icmp .eq off, 3)) (ht : (pc : Int) + off = (tgt : Int)) (kt : x = y → xf_V X tgt L st σ) (kf : ¬ x = y → xf_V X np L st σ) : xf_V X pc L (.int y :: .int x :: st) σ := by
  subst hp
  obtain ⟨p, l, e, R, s, m, args, below, meth, c, A, Q, D, tys, wf, nL, cells, slots⟩ := X
  exact fun H locs ls hP hD hS hl => lv_icmp_eq hX.2.1 hX.2.2.1 hd ht (fun h => kt h H locs ls hP hD hS hl) (fun h => kf h H locs ls hP hD hS hl)
theorem xf_if_ne (hX : xf_ok X l own cc nL fr lo wf D tys) (np : Nat) (hp : pc + 3 = np) {x : Int32} {off : Int} (tgt : Nat) (hd : decode cc pc = .ok (.ifCond .ne off, 3)) (ht : (pc : Int) + off = (tgt : Int)) (kt : ¬ x = 0 → xf_V X tgt L st σ) (kf : x = 0 → xf_V X np L st σ) : xf_V X pc L (.int x :: st) σ := by
  subst hp
  obtain ⟨p, l, e, R, s, m, args, below, meth, c, A, Q, D, tys, wf, nL, cells, slots⟩ := X
  exact fun H locs ls hP hD hS hl => lv_if_ne hX.2.1 hX.2.2.1 hd ht (fun h => kt h H locs ls hP hD hS hl) (fun h => kf h H locs ls hP hD hS hl)
theorem xf_icmp_ne (hX : xf_ok X l own cc nL fr lo wf D tys) (np : Nat) (hp : pc + 3 = np) {x y : Int32} {off : Int} (tgt : Nat) (hd : decode cc pc = .ok (.if_icmp .ne off, 3)) (ht : (pc : Int) + off = (tgt : Int)) (kt : ¬ x = y → xf_V X tgt L st σ) (kf : x = y → xf_V X np L st σ) : xf_V X pc L (.int y :: .int x :: st) σ := by
  subst hp
  obtain ⟨p, l, e, R, s, m, args, below, meth, c, A, Q, D, tys, wf, nL, cells, slots⟩ := X
  exact fun H locs ls hP hD hS hl => lv_icmp_ne hX.2.1 hX.2.2.1 hd ht (fun h => kt h H locs ls hP hD hS hl) (fun h => kf h H locs ls hP hD hS hl)
theorem xf_if_lt (hX : xf_ok X l own cc nL fr lo wf D tys) (np : Nat) (hp : pc + 3 = np) {x : Int32} {off : Int} (tgt : Nat) (hd : decode cc pc = .ok (.ifCond .lt off, 3)) (ht : (pc : Int) + off = (tgt : Int)) (kt : x < 0 → xf_V X tgt L st σ) (kf : ¬ x < 0 → xf_V X np L st σ) : xf_V X pc L (.int x :: st) σ := by
  subst hp
  obtain ⟨p, l, e, R, s, m, args, below, meth, c, A, Q, D, tys, wf, nL, cells, slots⟩ := X
  exact fun H locs ls hP hD hS hl => lv_if_lt hX.2.1 hX.2.2.1 hd ht (fun h => kt h H locs ls hP hD hS hl) (fun h => kf h H locs ls hP hD hS hl)
theorem xf_icmp_lt (hX : xf_ok X l own cc nL fr lo wf D tys) (np : Nat) (hp : pc + 3 = np) {x y : Int32} {off : Int} (tgt : Nat) (hd : decode cc pc = .ok (.if_icmp .lt off, 3)) (ht : (pc : Int) + off = (tgt : Int)) (kt : x < y → xf_V X tgt L st σ) (kf : ¬ x < y → xf_V X np L st σ) : xf_V X pc L (.int y :: .int x :: st) σ := by
  subst hp
  obtain ⟨p, l, e, R, s, m, args, below, meth, c, A, Q, D, tys, wf, nL, cells, slots⟩ := X
  exact fun H locs ls hP hD hS hl => lv_icmp_lt hX.2.1 hX.2.2.1 hd ht (fun h => kt h H locs ls hP hD hS hl) (fun h => kf h H locs ls hP hD hS hl)
theorem xf_if_ge (hX : xf_ok X l own cc nL fr lo wf D tys) (np : Nat) (hp : pc + 3 = np) {x : Int32} {off : Int} (tgt : Nat) (hd : decode cc pc = .ok (.ifCond .ge off, 3)) (ht : (pc : Int) + off = (tgt : Int)) (kt : 0 ≤ x → xf_V X tgt L st σ) (kf : ¬ 0 ≤ x → xf_V X np L st σ) : xf_V X pc L (.int x :: st) σ := by
  subst hp
  obtain ⟨p, l, e, R, s, m, args, below, meth, c, A, Q, D, tys, wf, nL, cells, slots⟩ := X
  exact fun H locs ls hP hD hS hl => lv_if_ge hX.2.1 hX.2.2.1 hd ht (fun h => kt h H locs ls hP hD hS hl) (fun h => kf h H locs ls hP hD hS hl)
theorem xf_icmp_ge (hX : xf_ok X l own cc nL fr lo wf D tys) (np : Nat) (hp : pc + 3 = np) {x y : Int32} {off : Int} (tgt : Nat) (hd : decode cc pc = .ok (.if_icmp .ge off, 3)) (ht : (pc : Int) + off = (tgt : Int)) (kt : y ≤ x → xf_V X tgt L st σ) (kf : ¬ y ≤ x → xf_V X np L st σ) : xf_V X pc L (.int y :: .int x :: st) σ := by
  subst hp
  obtain ⟨p, l, e, R, s, m, args, below, meth, c, A, Q, D, tys, wf, nL, cells, slots⟩ := X
  exact fun H locs ls hP hD hS hl => lv_icmp_ge hX.2.1 hX.2.2.1 hd ht (fun h => kt h H locs ls hP hD hS hl) (fun h => kf h H locs ls hP hD hS hl)
theorem xf_if_gt (hX : xf_ok X l own cc nL fr lo wf D tys) (np : Nat) (hp : pc + 3 = np) {x : Int32} {off : Int} (tgt : Nat) (hd : decode cc pc = .ok (.ifCond .gt off, 3)) (ht : (pc : Int) + off = (tgt : Int)) (kt : 0 < x → xf_V X tgt L st σ) (kf : ¬ 0 < x → xf_V X np L st σ) : xf_V X pc L (.int x :: st) σ := by
  subst hp
  obtain ⟨p, l, e, R, s, m, args, below, meth, c, A, Q, D, tys, wf, nL, cells, slots⟩ := X
  exact fun H locs ls hP hD hS hl => lv_if_gt hX.2.1 hX.2.2.1 hd ht (fun h => kt h H locs ls hP hD hS hl) (fun h => kf h H locs ls hP hD hS hl)
theorem xf_icmp_gt (hX : xf_ok X l own cc nL fr lo wf D tys) (np : Nat) (hp : pc + 3 = np) {x y : Int32} {off : Int} (tgt : Nat) (hd : decode cc pc = .ok (.if_icmp .gt off, 3)) (ht : (pc : Int) + off = (tgt : Int)) (kt : y < x → xf_V X tgt L st σ) (kf : ¬ y < x → xf_V X np L st σ) : xf_V X pc L (.int y :: .int x :: st) σ := by
  subst hp
  obtain ⟨p, l, e, R, s, m, args, below, meth, c, A, Q, D, tys, wf, nL, cells, slots⟩ := X
  exact fun H locs ls hP hD hS hl => lv_icmp_gt hX.2.1 hX.2.2.1 hd ht (fun h => kt h H locs ls hP hD hS hl) (fun h => kf h H locs ls hP hD hS hl)
theorem xf_if_le (hX : xf_ok X l own cc nL fr lo wf D tys) (np : Nat) (hp : pc + 3 = np) {x : Int32} {off : Int} (tgt : Nat) (hd : decode cc pc = .ok (.ifCond .le off, 3)) (ht : (pc : Int) + off = (tgt : Int)) (kt : x ≤ 0 → xf_V X tgt L st σ) (kf : ¬ x ≤ 0 → xf_V X np L st σ) : xf_V X pc L (.int x :: st) σ := by
  subst hp
  obtain ⟨p, l, e, R, s, m, args, below, meth, c, A, Q, D, tys, wf, nL, cells, slots⟩ := X
  exact fun H locs ls hP hD hS hl => lv_if_le hX.2.1 hX.2.2.1 hd ht (fun h => kt h H locs ls hP hD hS hl) (fun h => kf h H locs ls hP hD hS hl)
theorem xf_icmp_le (hX : xf_ok X l own cc nL fr lo wf D tys) (np : Nat) (hp : pc + 3 = np) {x y : Int32} {off : Int} (tgt : Nat) (hd : decode cc pc = .ok (.if_icmp .le off, 3)) (ht : (pc : Int) + off = (tgt : Int)) (kt : x ≤ y → xf_V X tgt L st σ) (kf : ¬ x ≤ y → xf_V X np L st σ) : xf_V X pc L (.int y :: .int x :: st) σ := by
  subst hp
  obtain ⟨p, l, e, R, s, m, args, below, meth, c, A, Q, D, tys, wf, nL, cells, slots⟩ := X
  exact fun H locs ls hP hD hS hl => lv_icmp_le hX.2.1 hX.2.2.1 hd ht (fun h => kt h H locs ls hP hD hS hl) (fun h => kf h H locs ls hP hD hS hl)
theorem xf_tabOut (hX : xf_ok X l own cc nL fr lo wf D tys) {dflt lw hi : Int} {offs : Array Int} {len : Nat} {x : Int32} (tgt : Nat) (hd : decode cc pc = .ok (.tableswitch dflt lw hi offs, len)) (h : x.toInt < lw ∨ hi < x.toInt) (ht : (pc : Int) + dflt = (tgt : Int)) (k : xf_V X tgt L st σ) : xf_V X pc L (.int x :: st) σ := by
  obtain ⟨p, l, e, R, s, m, args, below, meth, c, A, Q, D, tys, wf, nL, cells, slots⟩ := X
  exact fun H locs ls hP hD hS hl => lv_tableOut hX.2.1 hX.2.2.1 hd h ht (k H locs ls hP hD hS hl)
theorem xf_tabIn (hX : xf_ok X l own cc nL fr lo wf D tys) {dflt lw hi off : Int} {offs : Array Int} {len : Nat} {x : Int32} (tgt : Nat) (hd : decode cc pc = .ok (.tableswitch dflt lw hi offs, len)) (h1 : ¬ x.toInt < lw) (h2 : ¬ hi < x.toInt) (ho : offs[(x.toInt - lw).toNat]? = some off) (ht : (pc : Int) + off = (tgt : Int)) (k : xf_V X tgt L st σ) : xf_V X pc L (.int x :: st) σ := by
  obtain ⟨p, l, e, R, s, m, args, below, meth, c, A, Q, D, tys, wf, nL, cells, slots⟩ := X
  exact fun H locs ls hP hD hS hl => lv_tableIn hX.2.1 hX.2.2.1 hd h1 h2 ho ht (k H locs ls hP hD hS hl)
/-! cells of the world -/
theorem xf_get (hX : xf_ok X l own cc nL fr lo wf D tys) (np : Nat) (hp : pc + 3 = np) {C : String} {T : u_T} {N ci idx a : Nat} (hin : ∀ w ∈ u_ws C T N, w ∈ xf_GW) (q0 : Nat) {fs : List Value} (he : (wf σ)[q0]? = some (a, .inr (ci, fs))) (hc : vwCl[ci]? = some (C, T, N)) (k : Nat) (hk : k < N) (hlink : Cond.fieldLink own idx (T k).1 (T k).2.1 (T k).2.2.1 ∈ xf_GW) {v : Value} (hv : fs[k]? = some v) (hd : decode cc pc = .ok (.getfield idx, 3)) (kk : xf_V X np L (v :: st) σ) : xf_V X pc L (.ref a :: st) σ := by
  subst hp
  obtain ⟨p, l, e, R, s, m, args, below, meth, c, A, Q, D', tys', wf', nL', cells, slots⟩ := X
  obtain ⟨⟨h1, h2, h3, h4, h5⟩, hx, hb, hml, hown, hts, hK, hN, hA, hR, -⟩ := hX
  subst h2 h3 h4 h5
  exact fun H locs ls hP hD hS hl => va_get hx hb hts hin hown hK hP q0 he hc k hk (hts _ hlink) (fun _ h9 => h9) hv hd (kk H locs ls hP hD hS hl)
theorem xf_put (hX : xf_ok X l own cc nL fr lo wf D tys) (np : Nat) (hp : pc + 3 = np) {C : String} {T : u_T} {N ci idx a : Nat} (hin : ∀ w ∈ u_ws C T N, w ∈ xf_GW) (ty0 : Nat → FieldType) (hty : ∀ k, k < N → parseFieldDescriptor (T k).2.2.1 = some (ty0 k)) (hnm : ∀ a, a < N → ∀ b, b < N → a ≠ b → (T a).2.1 ≠ (T b).2.1) (q0 : Nat) {fs : List Value} (he : (wf σ)[q0]? = some (a, .inr (ci, fs))) (hc : vwCl[ci]? = some (C, T, N)) (k : Nat) (hk : k < N) (hlink : Cond.fieldLink own idx (T k).1 (T k).2.1 (T k).2.2.1 ∈ xf_GW) (hfin : (T k).2.2.2 = false) {v : Int32} (hdsc : parseFieldDescriptor (T k).2.2.1 = some .int) (hl9 : k < fs.length) {σ' : xf_S} (hσ : (wf σ).set q0 (a, .inr (ci, fs.set k (.int v))) = wf σ') (hd : decode cc pc = .ok (.putfield idx, 3)) (kk : xf_V X np L st σ') : xf_V X pc L (.int v :: .ref a :: st) σ := by
  subst hp
  obtain ⟨p, l, e, R, s, m, args, below, meth, c, A, Q, D', tys', wf', nL', cells, slots⟩ := X
  obtain ⟨⟨h1, h2, h3, h4, h5⟩, hx, hb, hml, hown, hts, hK, hN, hA, hR, -⟩ := hX
  subst h2 h3 h4 h5
  exact fun H locs ls hP hD hS hl => va_put (v := .int v) hx hb hts hin ty0 hty hnm hown hK hP hD hS q0 he hc k hk (hts _ hlink) (fun _ h9 => h9) hfin hdsc rfl rfl hl9 hd (fun H1 locs1 hP1 hD1 hS1 => kk H1 locs1 ls (hσ ▸ hP1) (hσ ▸ hD1) hS1 hl)
theorem xf_iald (hX : xf_ok X l own cc nL fr lo wf D tys) (np : Nat) (hp : pc + 1 = np) (q0 t0 : Nat) {a : Nat} {cA : ClassId} {n : Nat} {f : Nat → Int32} (ha : (wf σ)[q0]? = some (a, .inl (cA, n, .inl f))) (ht : tys[t0]? = some (cA, .int)) {i : Int32} (hin : vp_in i n) (hd : decode cc pc = .ok (.iaload, 1)) (kk : xf_V X np L (.int (f i.toNatClampNeg) :: st) σ) : xf_V X pc L (.int i :: .ref a :: st) σ := by
  subst hp
  obtain ⟨p, l, e, R, s, m, args, below, meth, c, A, Q, D', tys', wf', nL', cells, slots⟩ := X
  obtain ⟨⟨h1, h2, h3, h4, h5⟩, hx, hb, hml, hown, hts, hK, hN, hA, hR, -⟩ := hX
  subst h2 h3 h4 h5
  exact fun H locs ls hP hD hS hl => va_iald hx hb hK hP q0 t0 ha ht hin hd (kk H locs ls hP hD hS hl)
theorem xf_zald (hX : xf_ok X l own cc nL fr lo wf D tys) (np : Nat) (hp : pc + 1 = np) (q0 t0 : Nat) {a : Nat} {cA : ClassId} {n : Nat} {f : Nat → Int32} (ha : (wf σ)[q0]? = some (a, .inl (cA, n, .inl f))) (ht : tys[t0]? = some (cA, .boolean)) {i : Int32} (hin : vp_in i n) (hd : decode cc pc = .ok (.baload, 1)) (kk : xf_V X np L (.int (f i.toNatClampNeg) :: st) σ) : xf_V X pc L (.int i :: .ref a :: st) σ := by
  subst hp
  obtain ⟨p, l, e, R, s, m, args, below, meth, c, A, Q, D', tys', wf', nL', cells, slots⟩ := X
  obtain ⟨⟨h1, h2, h3, h4, h5⟩, hx, hb, hml, hown, hts, hK, hN, hA, hR, -⟩ := hX
  subst h2 h3 h4 h5
  exact fun H locs ls hP hD hS hl => va_zald hx hb hK hP q0 t0 ha ht hin hd (kk H locs ls hP hD hS hl)
theorem xf_aald (hX : xf_ok X l own cc nL fr lo wf D tys) (np : Nat) (hp : pc + 1 = np) (q0 t0 : Nat) {a : Nat} {cA : ClassId} {C : String} {n : Nat} {f : Nat → Option Nat} (ha : (wf σ)[q0]? = some (a, .inl (cA, n, .inr (.inr (.inr (.inr f)))))) (ht : tys[t0]? = some (cA, .object C)) {i : Int32} (hin : vp_in i n) (hd : decode cc pc = .ok (.aaload, 1)) {v : Value} (hv : va_rf (f i.toNatClampNeg) = v) (kk : xf_V X np L (v :: st) σ) : xf_V X pc L (.int i :: .ref a :: st) σ := by
  subst hp
  obtain ⟨p, l, e, R, s, m, args, below, meth, c, A, Q, D', tys', wf', nL', cells, slots⟩ := X
  obtain ⟨⟨h1, h2, h3, h4, h5⟩, hx, hb, hml, hown, hts, hK, hN, hA, hR, -⟩ := hX
  subst h2 h3 h4 h5 hv
  exact fun H locs ls hP hD hS hl => va_aldq hx hb hK hP q0 t0 ha ht hin hd (kk H locs ls hP hD hS hl)
theorem xf_iast (hX : xf_ok X l own cc nL fr lo wf D tys) (np : Nat) (hp : pc + 1 = np) (q0 t0 : Nat) {a : Nat} {cA : ClassId} {n : Nat} {f : Nat → Int32} (ha : (wf σ)[q0]? = some (a, .inl (cA, n, .inl f))) (ht : tys[t0]? = some (cA, .int)) {i x : Int32} (hin : vp_in i n) (hd : decode cc pc = .ok (.iastore, 1)) {σ' : xf_S} (hσ : (wf σ).set q0 (a, .inl (cA, n, .inl (upd f i.toNatClampNeg x))) = wf σ') (kk : xf_V X np L st σ') : xf_V X pc L (.int x :: .int i :: .ref a :: st) σ := by
  subst hp
  obtain ⟨p, l, e, R, s, m, args, below, meth, c, A, Q, D', tys', wf', nL', cells, slots⟩ := X
  obtain ⟨⟨h1, h2, h3, h4, h5⟩, hx, hb, hml, hown, hts, hK, hN, hA, hR, -⟩ := hX
  subst h2 h3 h4 h5
  exact fun H locs ls hP hD hS hl => va_iast hx hb hK hP hD hS q0 t0 ha ht hin hd (fun H1 locs1 hP1 hD1 hS1 => kk H1 locs1 ls (hσ ▸ hP1) (hσ ▸ hD1) hS1 hl)
theorem xf_zast (hX : xf_ok X l own cc nL fr lo wf D tys) (np : Nat) (hp : pc + 1 = np) (q0 t0 : Nat) {a : Nat} {cA : ClassId} {n : Nat} {f : Nat → Int32} (ha : (wf σ)[q0]? = some (a, .inl (cA, n, .inl f))) (ht : tys[t0]? = some (cA, .boolean)) {i x : Int32} (hin : vp_in i n) (hx0 : vp_nar .boolean x = x) (hd : decode cc pc = .ok (.bastore, 1)) {σ' : xf_S} (hσ : (wf σ).set q0 (a, .inl (cA, n, .inl (upd f i.toNatClampNeg x))) = wf σ') (kk : xf_V X np L st σ') : xf_V X pc L (.int x :: .int i :: .ref a :: st) σ := by
  subst hp
  obtain ⟨p, l, e, R, s, m, args, below, meth, c, A, Q, D', tys', wf', nL', cells, slots⟩ := X
  obtain ⟨⟨h1, h2, h3, h4, h5⟩, hx, hb, hml, hown, hts, hK, hN, hA, hR, -⟩ := hX
  subst h2 h3 h4 h5
  exact fun H locs ls hP hD hS hl => va_zast hx hb hK hP hD hS q0 t0 ha ht hin hd (fun H1 locs1 hP1 hD1 hS1 => by rw [hx0] at hP1 hD1; exact kk H1 locs1 ls (hσ ▸ hP1) (hσ ▸ hD1) hS1 hl)
theorem xf_alen (hX : xf_ok X l own cc nL fr lo wf D tys) (np : Nat) (hp : pc + 1 = np) (q0 t0 : Nat) {a : Nat} {cA : ClassId} {x : vp_A} (ha : (wf σ)[q0]? = some (a, .inl (cA, x))) {ty : FieldType} (ht : tys[t0]? = some (cA, ty)) {v : Int32} (hv : Int32.ofNat x.1 = v) (hd : decode cc pc = .ok (.arraylength, 1)) (kk : xf_V X np L (.int v :: st) σ) : xf_V X pc L (.ref a :: st) σ := by
  subst hp
  obtain ⟨p, l, e, R, s, m, args, below, meth, c, A, Q, D', tys', wf', nL', cells, slots⟩ := X
  obtain ⟨⟨h1, h2, h3, h4, h5⟩, hx, hb, hml, hown, hts, hK, hN, hA, hR, -⟩ := hX
  subst h2 h3 h4 h5
  exact fun H locs ls hP hD hS hl => va_alen hx hb hK hP q0 t0 ha ht hv hd (kk H locs ls hP hD hS hl)
/-! ends -/
variable {r : Int32} {σ' : xf_S} {rq : Option Value → xf_S → Prop}
theorem xf_iret (hX : xf_ok X l own cc nL fr lo wf D tys) (hE : xf_end X (some .int) rq) (hd : decode cc pc = .ok (.ireturn, 1)) (h : rq (some (.int r)) σ) : xf_V X pc L [.int r] σ := by
  obtain ⟨p, l, e, R, s, m, args, below, meth, c, A, Q, D', tys', wf', nL', cells, slots⟩ := X
  obtain ⟨⟨h1, h2, h3, h4, h5⟩, hx, hb, hml, hown, hts, hK, hN, hA, hR, -⟩ := hX
  obtain ⟨hr, hlk, hQ⟩ := hE
  subst h2 h3 h4 h5 hQ
  exact fun H locs ls hP hD hS hl => W.iret hx hb hr (fun t ht hW => ⟨⟨_, σ, rfl, h, by rw [ht]; exact hP, va_K.moved hW.alike hK, hD⟩, hS.F ht⟩) hS.2.2 hd hlk
theorem xf_zret (hX : xf_ok X l own cc nL fr lo wf D tys) (hE : xf_end X (some .boolean) rq) (hd : decode cc pc = .ok (.ireturn, 1)) (hz : narrow .boolean (.int r) = .int r) (h : rq (some (.int r)) σ) : xf_V X pc L [.int r] σ := by
  obtain ⟨p, l, e, R, s, m, args, below, meth, c, A, Q, D', tys', wf', nL', cells, slots⟩ := X
  obtain ⟨⟨h1, h2, h3, h4, h5⟩, hx, hb, hml, hown, hts, hK, hN, hA, hR, -⟩ := hX
  obtain ⟨hr, hlk, hQ⟩ := hE
  subst h2 h3 h4 h5 hQ
  exact fun H locs ls hP hD hS hl => W.zret hx hb hr hz (fun t ht hW => ⟨⟨_, σ, rfl, h, by rw [ht]; exact hP, va_K.moved hW.alike hK, hD⟩, hS.F ht⟩) hS.2.2 hd hlk
theorem xf_vret (hX : xf_ok X l own cc nL fr lo wf D tys) (hE : xf_end X none rq) (hd : decode cc pc = .ok (.return_, 1)) (h : rq none σ) : xf_V X pc L [] σ := by
  obtain ⟨p, l, e, R, s, m, args, below, meth, c, A, Q, D', tys', wf', nL', cells, slots⟩ := X
  obtain ⟨⟨h1, h2, h3, h4, h5⟩, hx, hb, hml, hown, hts, hK, hN, hA, hR, -⟩ := hX
  obtain ⟨hr, hlk, hQ⟩ := hE
  subst h2 h3 h4 h5 hQ
  exact fun H locs ls hP hD hS hl => W.vret hx hb hr (fun t ht hW => ⟨⟨_, σ, rfl, h, by rw [ht]; exact hP, va_K.moved hW.alike hK, hD⟩, hS.F ht⟩) hS.2.2 hd hlk
/-! calls -/
/-- what the tables say of a callee -/
def xf_mth (y : MethodName) (cc : ByteArray) (nL : Nat) (ret : Option FieldType) (n : Nat) : Prop := Cond.code y cc nL ret ∈ xf_GW ∧ Cond.initialized y.cls ∈ xf_GW ∧ y.cls ≠ "java/lang/invoke/MethodHandle" ∧ y.cls ≠ "java/lang/invoke/VarHandle" ∧ (parseMethodDescriptor y.desc).map (fun d => d.parameters.length) = some n
def xf_sta (y : MethodName) (cc : ByteArray) (nL : Nat) (ret : Option FieldType) (n : Nat) : Prop := xf_mth y cc nL ret n ∧ Cond.static y ∈ xf_GW
def xf_vir (y : MethodName) (cc : ByteArray) (nL : Nat) (ret : Option FieldType) (n : Nat) : Prop := xf_mth y cc nL ret n ∧ Cond.instanceMethod y ∈ xf_GW ∧ Cond.selects y.cls y y ∈ xf_GW
theorem xf_blind {av : List Value} {sz : Nat} : FrameBlind (va_Pc av (fun U => U.heap.size = sz ∧ va_P D vwCl (wf σ) U.heap ∧ va_K D vwCl tys U ∧ va_D (fun _ => True) (wf σ) ∧ xf_NW U)) := by
  intro a U g mk q
  obtain ⟨q0, q1, qP, qK, qD, qN⟩ := q
  exact ⟨q0, q1, qP, va_K.moved (u := U) (U := U.calling g mk a) (Vm.Alike.refl U.vm) qK, qD, xf_NW_vm (s := U) (U := U.calling g mk a) rfl qN⟩
/-- behind any call: the world that came back -/
theorem xf_back {p : Program} {l : Launch} {e : Env} {R : Room} {s : State} {m : MethodId} {args : Array Value} {below : List Frame} {meth : Method} {c : Code} {H : Heap} {locs : List Loc} {cells slots : Nat} {Q : State → Prop} {A : Nat → Prop} {ls : Array Slot} {st0 rest : List Value} {aa : Array Value}
    (hr : va_Run p l e R s m args below meth c H locs cells slots 0 0 (F0 m pc ls st0) rest (xf_Qc D tys wf (va_A (wf σ) H.size) rq aa) (va_A (wf σ) H.size)) (hD : va_D A (wf σ)) (hS : va_S A s.heap H locs) (hA : ∀ q : Nat, s.heap.size ≤ q → A q)
    (kk : ∀ (v : Option Value) (u : xf_S), rq v u → ∀ (H1 : Heap) (locs1 : List Loc), va_P D vwCl (wf u) H1 → va_D A (wf u) → va_S A s.heap H1 locs1 → W p l e R s m args below meth c H1 locs1 cells slots Q (F0 m (pc + 3) ls (v.toList ++ rest))) : W p l e R s m args below meth c H locs cells slots Q (F0 m pc ls st0) := by
  have hF : ∀ q, va_A (wf σ) H.size q → A q := by
    intro q h
    rcases h with ⟨k, e, h⟩ | h
    · exact hD.2 k (q, e) h
    · exact hA q (Nat.le_trans hS.1 h)
  intro T hT X
  obtain ⟨v, st₀, t, T', L, h0, X', hL, e1, e2, ⟨⟨v', u, hv, hp, hP1, hK1, hD1⟩, hz, hk⟩, st⟩ := hr T hT X
  cases hv
  rw [h0] at hz hk
  obtain ⟨t2, a1, b1⟩ := kk v u hp T'.heap (locs ++ L) (by rw [e1]; exact hP1) (hD1.weaken (fun _ q _ h => hF q.1 h))
    ⟨Nat.le_trans hS.1 (by rw [e1]; exact hz), fun q h1 h2 => by rw [e1, hk q (Nat.lt_of_lt_of_le h1 hS.1) (fun z => h2 (hF q z))]; exact hS.2.1 q h1 h2, fun q hq => by
      rcases List.mem_append.mp hq with h | h
      · exact hS.2.2 q h
      · exact hF _ (hL q h)⟩ T' rfl X'
  exact ⟨t2, st t2 a1, b1⟩
variable {y : MethodName} {cc' : ByteArray} {nL' fr' lo' idx n : Nat} {ret' : Option FieldType} {rest : List Value}
theorem xf_callS (hX : xf_ok X l own cc nL fr lo wf D tys) (np : Nat) (hp : pc + 3 = np) (As : List Value) (rest : List Value) (hM : xf_M l y cc' nL' ret' fr' lo' wf D tys As σ rq) (hy : xf_sta y cc' nL' ret' n) (hl : Cond.methodLink own idx y ∈ xf_GW) (hn : As.length = n) (hst : st = As.reverse ++ rest) (hw : (rest.map fun v => v.category).sum ≤ 8) (hR : fr' + 1 ≤ fr ∧ 8 + (nL' + 11) + lo' ≤ lo) (hd : decode cc pc = .ok (.invokestatic idx, 3))
    (kk : ∀ (v : Option Value) (u : xf_S), rq v u → xf_V X np L (v.toList ++ rest) u) : xf_V X pc L st σ := by
  subst hp
  obtain ⟨p, l, e, R, s, m, args, below, meth, c, A, Q, D', tys', wf', nL0, cells, slots⟩ := X
  obtain ⟨⟨h1, h2, h3, h4, h5⟩, hx, hb, hml, hown, hts, hK, hN, hA, hR0, hc1, hc2⟩ := hX
  subst h1 h2 h3 h4 h5 hst
  obtain ⟨⟨m1, m2, m3, m4, m5⟩, m6⟩ := hy
  intro H locs ls hP hD hS hls
  have cw : CallB R s args own idx y cc' nL' ret' (.code y cc' nL' ret' :: xf_GW) { frames := fr', cells := 0, slots := 0, locals := lo' } 0 0 n :=
    callB_of n hts (xf_good m1) rfl rfl rfl (hts _ m2) (hts _ hl) ⟨m3, m4, m5⟩ (by rw [hR0.1, hR0.2]; exact hR)
  refine xf_back (rest := rest) (va_runS (nL := nL0) (Ts := xf_GW) (As := As) ⟨hx, hb, hml, hown, hts⟩ (hM H.size) ⟨cw, hts _ m6⟩ ⟨xf_blind, fun U hU hW => ⟨rfl, by rw [hU], by rw [hU]; exact hP, va_K.moved hW.alike hK, hD.weaken (fun _ _ _ _ => trivial), xf_NW_warm hW hN⟩⟩ rfl hn hls.1.1 rfl (lv_room hw) hd ⟨hc1, hc2⟩) hD hS hA (fun v u hq H1 locs1 hP1 hD1 hS1 => kk v u hq H1 locs1 ls hP1 hD1 hS1 hls)
theorem xf_callSN (hX : xf_ok X l own cc nL fr lo wf D tys) (np : Nat) (hp : pc + 3 = np) (As : List Value) (rest : List Value) (hM : xf_M l y cc' nL' ret' fr' lo' wf D tys As σ rq) (hy : xf_sta y cc' nL' ret' n) {host : String} (hl : Cond.methodLinkNest own idx y host ∈ xf_NL) (hn : As.length = n) (hst : st = As.reverse ++ rest) (hw : (rest.map fun v => v.category).sum ≤ 8) (hR : fr' + 1 ≤ fr ∧ 8 + (nL' + 11) + lo' ≤ lo) (hd : decode cc pc = .ok (.invokestatic idx, 3))
    (kk : ∀ (v : Option Value) (u : xf_S), rq v u → xf_V X np L (v.toList ++ rest) u) : xf_V X pc L st σ := by
  subst hp
  obtain ⟨p, l, e, R, s, m, args, below, meth, c, A, Q, D', tys', wf', nL0, cells, slots⟩ := X
  obtain ⟨⟨h1, h2, h3, h4, h5⟩, hx, hb, hml, hown, hts, hK, hN, hA, hR0, hc1, hc2⟩ := hX
  subst h1 h2 h3 h4 h5 hst
  obtain ⟨⟨m1, m2, m3, m4, m5⟩, m6⟩ := hy
  intro H locs ls hP hD hS hls
  have cw : va_CN R s args own idx y host cc' nL' ret' (.code y cc' nL' ret' :: xf_GW) { frames := fr', cells := 0, slots := 0, locals := lo' } 0 0 n :=
    va_cnB n hts (xf_good m1) rfl rfl rfl (hN _ hl) (hts _ m2) ⟨m3, m4, m5⟩ (by rw [hR0.1, hR0.2]; exact hR)
  refine xf_back (rest := rest) (va_runSN (nL := nL0) (Ts := xf_GW) (As := As) ⟨hx, hb, hml, hown, hts⟩ (hM H.size) ⟨cw, hts _ m6, trivial⟩ ⟨xf_blind, fun U hU hW => ⟨rfl, by rw [hU], by rw [hU]; exact hP, va_K.moved hW.alike hK, hD.weaken (fun _ _ _ _ => trivial), xf_NW_warm hW hN⟩⟩ rfl hn hls.1.1 rfl (lv_room hw) hd ⟨hc1, hc2⟩) hD hS hA (fun v u hq H1 locs1 hP1 hD1 hS1 => kk v u hq H1 locs1 ls hP1 hD1 hS1 hls)
theorem xf_callV (hX : xf_ok X l own cc nL fr lo wf D tys) (np : Nat) (hp : pc + 3 = np) {b : Nat} (As : List Value) (rest : List Value) (hM : xf_M l y cc' nL' ret' fr' lo' wf D tys (.ref b :: As) σ rq) (hy : xf_vir y cc' nL' ret' n) (hl : Cond.methodLink own idx y ∈ xf_GW) (q0 ci : Nat) {fs : List Value} {r : vw_C} (he : (wf σ)[q0]? = some (b, .inr (ci, fs))) (hc : vwCl[ci]? = some r) (hcy : r.1 = y.cls) (hn : As.length = n) (hst : st = As.reverse ++ .ref b :: rest) (hw : (rest.map fun v => v.category).sum ≤ 8) (hR : fr' + 1 ≤ fr ∧ 8 + (nL' + 11) + lo' ≤ lo) (hd : decode cc pc = .ok (.invokevirtual idx, 3))
    (kk : ∀ (v : Option Value) (u : xf_S), rq v u → xf_V X np L (v.toList ++ rest) u) : xf_V X pc L st σ := by
  subst hp
  obtain ⟨p, l, e, R, s, m, args, below, meth, c, A, Q, D', tys', wf', nL0, cells, slots⟩ := X
  obtain ⟨⟨h1, h2, h3, h4, h5⟩, hx, hb, hml, hown, hts, hK, hN, hA, hR0, hc1, hc2⟩ := hX
  subst h1 h2 h3 h4 h5 hst
  obtain ⟨⟨m1, m2, m3, m4, m5⟩, m6, m7⟩ := hy
  intro H locs ls hP hD hS hls
  have cw : CallB R s args own idx y cc' nL' ret' (.code y cc' nL' ret' :: xf_GW) { frames := fr', cells := 0, slots := 0, locals := lo' } 0 0 n :=
    callB_of n hts (xf_good m1) rfl rfl rfl (hts _ m2) (hts _ hl) ⟨m3, m4, m5⟩ (by rw [hR0.1, hR0.2]; exact hR)
  have hrc := va_recv hK hP hc he
  rw [hcy] at hrc
  refine xf_back (rest := rest) (va_runV (nL := nL0) (Ts := xf_GW) (C := y.cls) (b := b) (As := As) ⟨hx, hb, hml, hown, hts⟩ (hM H.size) ⟨cw, hts _ m6, hts _ m7⟩ ⟨xf_blind, hrc, fun U hU hW => ⟨rfl, by rw [hU], by rw [hU]; exact hP, va_K.moved hW.alike hK, hD.weaken (fun _ _ _ _ => trivial), xf_NW_warm hW hN⟩⟩ rfl hn hls.1.1 rfl (lv_room hw) hd ⟨hc1, hc2⟩) hD hS hA (fun v u hq H1 locs1 hP1 hD1 hS1 => kk v u hq H1 locs1 ls hP1 hD1 hS1 hls)
theorem xf_callVN (hX : xf_ok X l own cc nL fr lo wf D tys) (np : Nat) (hp : pc + 3 = np) {b : Nat} (As : List Value) (rest : List Value) (hM : xf_M l y cc' nL' ret' fr' lo' wf D tys (.ref b :: As) σ rq) (hy : xf_vir y cc' nL' ret' n) {host : String} (hl : Cond.methodLinkNest own idx y host ∈ xf_NL) (q0 ci : Nat) {fs : List Value} {r : vw_C} (he : (wf σ)[q0]? = some (b, .inr (ci, fs))) (hc : vwCl[ci]? = some r) (hcy : r.1 = y.cls) (hn : As.length = n) (hst : st = As.reverse ++ .ref b :: rest) (hw : (rest.map fun v => v.category).sum ≤ 8) (hR : fr' + 1 ≤ fr ∧ 8 + (nL' + 11) + lo' ≤ lo) (hd : decode cc pc = .ok (.invokevirtual idx, 3))
    (kk : ∀ (v : Option Value) (u : xf_S), rq v u → xf_V X np L (v.toList ++ rest) u) : xf_V X pc L st σ := by
  subst hp
  obtain ⟨p, l, e, R, s, m, args, below, meth, c, A, Q, D', tys', wf', nL0, cells, slots⟩ := X
  obtain ⟨⟨h1, h2, h3, h4, h5⟩, hx, hb, hml, hown, hts, hK, hN, hA, hR0, hc1, hc2⟩ := hX
  subst h1 h2 h3 h4 h5 hst
  obtain ⟨⟨m1, m2, m3, m4, m5⟩, m6, m7⟩ := hy
  intro H locs ls hP hD hS hls
  have cw : va_CN R s args own idx y host cc' nL' ret' (.code y cc' nL' ret' :: xf_GW) { frames := fr', cells := 0, slots := 0, locals := lo' } 0 0 n :=
    va_cnB n hts (xf_good m1) rfl rfl rfl (hN _ hl) (hts _ m2) ⟨m3, m4, m5⟩ (by rw [hR0.1, hR0.2]; exact hR)
  have hrc := va_recv hK hP hc he
  rw [hcy] at hrc
  refine xf_back (rest := rest) (va_runVN (nL := nL0) (Ts := xf_GW) (C := y.cls) (b := b) (As := As) ⟨hx, hb, hml, hown, hts⟩ (hM H.size) ⟨cw, hts _ m6, hts _ m7⟩ ⟨xf_blind, hrc, fun U hU hW => ⟨rfl, by rw [hU], by rw [hU]; exact hP, va_K.moved hW.alike hK, hD.weaken (fun _ _ _ _ => trivial), xf_NW_warm hW hN⟩⟩ rfl hn hls.1.1 rfl (lv_room hw) hd ⟨hc1, hc2⟩) hD hS hA (fun v u hq H1 locs1 hP1 hD1 hS1 => kk v u hq H1 locs1 ls hP1 hD1 hS1 hls)
end XFR
end
section
def xf_rcv (wf : xf_S → va_W) (σ : xf_S) (b : Nat) (C : String) : Prop := ∃ (q0 ci : Nat) (fs : List Value) (r : vw_C), (wf σ)[q0]? = some (b, .inr (ci, fs)) ∧ vwCl[ci]? = some r ∧ r.1 = C
section XFW
variable {X : xf_C} {l : Launch} {own : String} {cc : ByteArray} {nL fr lo : Nat} {wf : xf_S → va_W} {D : va_G} {tys : List (ClassId × FieldType)} {pc : Nat} {L : List (Option Value)} {st : List Value} {σ : xf_S}
variable {r : Int32} {σ' : xf_S} {y : MethodName} {cc' : ByteArray} {nL' fr' lo' idx : Nat} {ret' : Option FieldType} {rest : List Value} {rq : Option Value → xf_S → Prop} {b : Nat}
theorem xf_ble {a b c d : Nat} (h : (Nat.ble a b && Nat.ble c d) = true) : a ≤ b ∧ c ≤ d := by
  rw [Bool.and_eq_true] at h
  exact ⟨Nat.le_of_ble_eq_true h.1, Nat.le_of_ble_eq_true h.2⟩
theorem xf_S0i (hX : xf_ok X l own cc nL fr lo wf D tys) (np : Nat) (hp : pc + 3 = np) (hM : xf_F l y cc' nL' ret' fr' lo' wf D tys [] σ (some (.int r)) σ') (hy : xf_sta y cc' nL' ret' 0) (hl : Cond.methodLink own idx y ∈ xf_GW) (hw : Nat.ble ((rest.map fun v => v.category).sum) 8 = true) (hR : (Nat.ble (fr' + 1) fr && Nat.ble (8 + (nL' + 11) + lo') lo) = true) (hd : decode cc pc = .ok (.invokestatic idx, 3)) (kk : xf_V X np L (.int r :: rest) σ') : xf_V X pc L rest σ := by
  exact xf_callS hX np hp [] rest hM hy hl rfl rfl (Nat.le_of_ble_eq_true hw) (xf_ble hR) hd (fun v u h => by obtain ⟨rfl, rfl⟩ := h; exact kk)
theorem xf_S0v (hX : xf_ok X l own cc nL fr lo wf D tys) (np : Nat) (hp : pc + 3 = np) (hM : xf_F l y cc' nL' ret' fr' lo' wf D tys [] σ none σ') (hy : xf_sta y cc' nL' ret' 0) (hl : Cond.methodLink own idx y ∈ xf_GW) (hw : Nat.ble ((rest.map fun v => v.category).sum) 8 = true) (hR : (Nat.ble (fr' + 1) fr && Nat.ble (8 + (nL' + 11) + lo') lo) = true) (hd : decode cc pc = .ok (.invokestatic idx, 3)) (kk : xf_V X np L rest σ') : xf_V X pc L rest σ := by
  exact xf_callS hX np hp [] rest hM hy hl rfl rfl (Nat.le_of_ble_eq_true hw) (xf_ble hR) hd (fun v u h => by obtain ⟨rfl, rfl⟩ := h; exact kk)
theorem xf_S0r (hX : xf_ok X l own cc nL fr lo wf D tys) (np : Nat) (hp : pc + 3 = np) (hM : xf_M l y cc' nL' ret' fr' lo' wf D tys [] σ rq) (hy : xf_sta y cc' nL' ret' 0) (hl : Cond.methodLink own idx y ∈ xf_GW) (hw : Nat.ble ((rest.map fun v => v.category).sum) 8 = true) (hR : (Nat.ble (fr' + 1) fr && Nat.ble (8 + (nL' + 11) + lo') lo) = true) (hd : decode cc pc = .ok (.invokestatic idx, 3)) (kk : ∀ (v : Option Value) (u : xf_S), rq v u → xf_V X np L (v.toList ++ rest) u) : xf_V X pc L rest σ := by
  exact xf_callS hX np hp [] rest hM hy hl rfl rfl (Nat.le_of_ble_eq_true hw) (xf_ble hR) hd kk
theorem xf_T0i (hX : xf_ok X l own cc nL fr lo wf D tys) (np : Nat) (hp : pc + 3 = np) (hM : xf_F l y cc' nL' ret' fr' lo' wf D tys [] σ (some (.int r)) σ') (hy : xf_sta y cc' nL' ret' 0) {host : String} (hl : Cond.methodLinkNest own idx y host ∈ xf_NL) (hw : Nat.ble ((rest.map fun v => v.category).sum) 8 = true) (hR : (Nat.ble (fr' + 1) fr && Nat.ble (8 + (nL' + 11) + lo') lo) = true) (hd : decode cc pc = .ok (.invokestatic idx, 3)) (kk : xf_V X np L (.int r :: rest) σ') : xf_V X pc L rest σ := by
  exact xf_callSN hX np hp [] rest hM hy hl rfl rfl (Nat.le_of_ble_eq_true hw) (xf_ble hR) hd (fun v u h => by obtain ⟨rfl, rfl⟩ := h; exact kk)
theorem xf_T0v (hX : xf_ok X l own cc nL fr lo wf D tys) (np : Nat) (hp : pc + 3 = np) (hM : xf_F l y cc' nL' ret' fr' lo' wf D tys [] σ none σ') (hy : xf_sta y cc' nL' ret' 0) {host : String} (hl : Cond.methodLinkNest own idx y host ∈ xf_NL) (hw : Nat.ble ((rest.map fun v => v.category).sum) 8 = true) (hR : (Nat.ble (fr' + 1) fr && Nat.ble (8 + (nL' + 11) + lo') lo) = true) (hd : decode cc pc = .ok (.invokestatic idx, 3)) (kk : xf_V X np L rest σ') : xf_V X pc L rest σ := by
  exact xf_callSN hX np hp [] rest hM hy hl rfl rfl (Nat.le_of_ble_eq_true hw) (xf_ble hR) hd (fun v u h => by obtain ⟨rfl, rfl⟩ := h; exact kk)
theorem xf_T0r (hX : xf_ok X l own cc nL fr lo wf D tys) (np : Nat) (hp : pc + 3 = np) (hM : xf_M l y cc' nL' ret' fr' lo' wf D tys [] σ rq) (hy : xf_sta y cc' nL' ret' 0) {host : String} (hl : Cond.methodLinkNest own idx y host ∈ xf_NL) (hw : Nat.ble ((rest.map fun v => v.category).sum) 8 = true) (hR : (Nat.ble (fr' + 1) fr && Nat.ble (8 + (nL' + 11) + lo') lo) = true) (hd : decode cc pc = .ok (.invokestatic idx, 3)) (kk : ∀ (v : Option Value) (u : xf_S), rq v u → xf_V X np L (v.toList ++ rest) u) : xf_V X pc L rest σ := by
  exact xf_callSN hX np hp [] rest hM hy hl rfl rfl (Nat.le_of_ble_eq_true hw) (xf_ble hR) hd kk
theorem xf_V0i (hX : xf_ok X l own cc nL fr lo wf D tys) (np : Nat) (hp : pc + 3 = np) (hM : xf_F l y cc' nL' ret' fr' lo' wf D tys [.ref b] σ (some (.int r)) σ') (hy : xf_vir y cc' nL' ret' 0) (hl : Cond.methodLink own idx y ∈ xf_GW) (hrc : xf_rcv wf σ b y.cls) (hw : Nat.ble ((rest.map fun v => v.category).sum) 8 = true) (hR : (Nat.ble (fr' + 1) fr && Nat.ble (8 + (nL' + 11) + lo') lo) = true) (hd : decode cc pc = .ok (.invokevirtual idx, 3)) (kk : xf_V X np L (.int r :: rest) σ') : xf_V X pc L (.ref b :: rest) σ := by
  obtain ⟨q0, ci, fs, r0, e1, e2, e3⟩ := hrc
  exact xf_callV hX np hp [] rest hM hy hl q0 ci e1 e2 e3 rfl rfl (Nat.le_of_ble_eq_true hw) (xf_ble hR) hd (fun v u h => by obtain ⟨rfl, rfl⟩ := h; exact kk)
theorem xf_V0v (hX : xf_ok X l own cc nL fr lo wf D tys) (np : Nat) (hp : pc + 3 = np) (hM : xf_F l y cc' nL' ret' fr' lo' wf D tys [.ref b] σ none σ') (hy : xf_vir y cc' nL' ret' 0) (hl : Cond.methodLink own idx y ∈ xf_GW) (hrc : xf_rcv wf σ b y.cls) (hw : Nat.ble ((rest.map fun v => v.category).sum) 8 = true) (hR : (Nat.ble (fr' + 1) fr && Nat.ble (8 + (nL' + 11) + lo') lo) = true) (hd : decode cc pc = .ok (.invokevirtual idx, 3)) (kk : xf_V X np L rest σ') : xf_V X pc L (.ref b :: rest) σ := by
  obtain ⟨q0, ci, fs, r0, e1, e2, e3⟩ := hrc
  exact xf_callV hX np hp [] rest hM hy hl q0 ci e1 e2 e3 rfl rfl (Nat.le_of_ble_eq_true hw) (xf_ble hR) hd (fun v u h => by obtain ⟨rfl, rfl⟩ := h; exact kk)
theorem xf_V0r (hX : xf_ok X l own cc nL fr lo wf D tys) (np : Nat) (hp : pc + 3 = np) (hM : xf_M l y cc' nL' ret' fr' lo' wf D tys [.ref b] σ rq) (hy : xf_vir y cc' nL' ret' 0) (hl : Cond.methodLink own idx y ∈ xf_GW) (hrc : xf_rcv wf σ b y.cls) (hw : Nat.ble ((rest.map fun v => v.category).sum) 8 = true) (hR : (Nat.ble (fr' + 1) fr && Nat.ble (8 + (nL' + 11) + lo') lo) = true) (hd : decode cc pc = .ok (.invokevirtual idx, 3)) (kk : ∀ (v : Option Value) (u : xf_S), rq v u → xf_V X np L (v.toList ++ rest) u) : xf_V X pc L (.ref b :: rest) σ := by
  obtain ⟨q0, ci, fs, r0, e1, e2, e3⟩ := hrc
  exact xf_callV hX np hp [] rest hM hy hl q0 ci e1 e2 e3 rfl rfl (Nat.le_of_ble_eq_true hw) (xf_ble hR) hd kk
theorem xf_U0i (hX : xf_ok X l own cc nL fr lo wf D tys) (np : Nat) (hp : pc + 3 = np) (hM : xf_F l y cc' nL' ret' fr' lo' wf D tys [.ref b] σ (some (.int r)) σ') (hy : xf_vir y cc' nL' ret' 0) {host : String} (hl : Cond.methodLinkNest own idx y host ∈ xf_NL) (hrc : xf_rcv wf σ b y.cls) (hw : Nat.ble ((rest.map fun v => v.category).sum) 8 = true) (hR : (Nat.ble (fr' + 1) fr && Nat.ble (8 + (nL' + 11) + lo') lo) = true) (hd : decode cc pc = .ok (.invokevirtual idx, 3)) (kk : xf_V X np L (.int r :: rest) σ') : xf_V X pc L (.ref b :: rest) σ := by
  obtain ⟨q0, ci, fs, r0, e1, e2, e3⟩ := hrc
  exact xf_callVN hX np hp [] rest hM hy hl q0 ci e1 e2 e3 rfl rfl (Nat.le_of_ble_eq_true hw) (xf_ble hR) hd (fun v u h => by obtain ⟨rfl, rfl⟩ := h; exact kk)
theorem xf_U0v (hX : xf_ok X l own cc nL fr lo wf D tys) (np : Nat) (hp : pc + 3 = np) (hM : xf_F l y cc' nL' ret' fr' lo' wf D tys [.ref b] σ none σ') (hy : xf_vir y cc' nL' ret' 0) {host : String} (hl : Cond.methodLinkNest own idx y host ∈ xf_NL) (hrc : xf_rcv wf σ b y.cls) (hw : Nat.ble ((rest.map fun v => v.category).sum) 8 = true) (hR : (Nat.ble (fr' + 1) fr && Nat.ble (8 + (nL' + 11) + lo') lo) = true) (hd : decode cc pc = .ok (.invokevirtual idx, 3)) (kk : xf_V X np L rest σ') : xf_V X pc L (.ref b :: rest) σ := by
  obtain ⟨q0, ci, fs, r0, e1, e2, e3⟩ := hrc
  exact xf_callVN hX np hp [] rest hM hy hl q0 ci e1 e2 e3 rfl rfl (Nat.le_of_ble_eq_true hw) (xf_ble hR) hd (fun v u h => by obtain ⟨rfl, rfl⟩ := h; exact kk)
theorem xf_U0r (hX : xf_ok X l own cc nL fr lo wf D tys) (np : Nat) (hp : pc + 3 = np) (hM : xf_M l y cc' nL' ret' fr' lo' wf D tys [.ref b] σ rq) (hy : xf_vir y cc' nL' ret' 0) {host : String} (hl : Cond.methodLinkNest own idx y host ∈ xf_NL) (hrc : xf_rcv wf σ b y.cls) (hw : Nat.ble ((rest.map fun v => v.category).sum) 8 = true) (hR : (Nat.ble (fr' + 1) fr && Nat.ble (8 + (nL' + 11) + lo') lo) = true) (hd : decode cc pc = .ok (.invokevirtual idx, 3)) (kk : ∀ (v : Option Value) (u : xf_S), rq v u → xf_V X np L (v.toList ++ rest) u) : xf_V X pc L (.ref b :: rest) σ := by
  obtain ⟨q0, ci, fs, r0, e1, e2, e3⟩ := hrc
  exact xf_callVN hX np hp [] rest hM hy hl q0 ci e1 e2 e3 rfl rfl (Nat.le_of_ble_eq_true hw) (xf_ble hR) hd kk
theorem xf_S1i (hX : xf_ok X l own cc nL fr lo wf D tys) (np : Nat) (hp : pc + 3 = np) {v1 : Value} (hM : xf_F l y cc' nL' ret' fr' lo' wf D tys [v1] σ (some (.int r)) σ') (hy : xf_sta y cc' nL' ret' 1) (hl : Cond.methodLink own idx y ∈ xf_GW) (hw : Nat.ble ((rest.map fun v => v.category).sum) 8 = true) (hR : (Nat.ble (fr' + 1) fr && Nat.ble (8 + (nL' + 11) + lo') lo) = true) (hd : decode cc pc = .ok (.invokestatic idx, 3)) (kk : xf_V X np L (.int r :: rest) σ') : xf_V X pc L (v1 :: rest) σ := by
  exact xf_callS hX np hp [v1] rest hM hy hl rfl rfl (Nat.le_of_ble_eq_true hw) (xf_ble hR) hd (fun v u h => by obtain ⟨rfl, rfl⟩ := h; exact kk)
theorem xf_S1v (hX : xf_ok X l own cc nL fr lo wf D tys) (np : Nat) (hp : pc + 3 = np) {v1 : Value} (hM : xf_F l y cc' nL' ret' fr' lo' wf D tys [v1] σ none σ') (hy : xf_sta y cc' nL' ret' 1) (hl : Cond.methodLink own idx y ∈ xf_GW) (hw : Nat.ble ((rest.map fun v => v.category).sum) 8 = true) (hR : (Nat.ble (fr' + 1) fr && Nat.ble (8 + (nL' + 11) + lo') lo) = true) (hd : decode cc pc = .ok (.invokestatic idx, 3)) (kk : xf_V X np L rest σ') : xf_V X pc L (v1 :: rest) σ := by
  exact xf_callS hX np hp [v1] rest hM hy hl rfl rfl (Nat.le_of_ble_eq_true hw) (xf_ble hR) hd (fun v u h => by obtain ⟨rfl, rfl⟩ := h; exact kk)
theorem xf_S1r (hX : xf_ok X l own cc nL fr lo wf D tys) (np : Nat) (hp : pc + 3 = np) {v1 : Value} (hM : xf_M l y cc' nL' ret' fr' lo' wf D tys [v1] σ rq) (hy : xf_sta y cc' nL' ret' 1) (hl : Cond.methodLink own idx y ∈ xf_GW) (hw : Nat.ble ((rest.map fun v => v.category).sum) 8 = true) (hR : (Nat.ble (fr' + 1) fr && Nat.ble (8 + (nL' + 11) + lo') lo) = true) (hd : decode cc pc = .ok (.invokestatic idx, 3)) (kk : ∀ (v : Option Value) (u : xf_S), rq v u → xf_V X np L (v.toList ++ rest) u) : xf_V X pc L (v1 :: rest) σ := by
  exact xf_callS hX np hp [v1] rest hM hy hl rfl rfl (Nat.le_of_ble_eq_true hw) (xf_ble hR) hd kk
theorem xf_T1i (hX : xf_ok X l own cc nL fr lo wf D tys) (np : Nat) (hp : pc + 3 = np) {v1 : Value} (hM : xf_F l y cc' nL' ret' fr' lo' wf D tys [v1] σ (some (.int r)) σ') (hy : xf_sta y cc' nL' ret' 1) {host : String} (hl : Cond.methodLinkNest own idx y host ∈ xf_NL) (hw : Nat.ble ((rest.map fun v => v.category).sum) 8 = true) (hR : (Nat.ble (fr' + 1) fr && Nat.ble (8 + (nL' + 11) + lo') lo) = true) (hd : decode cc pc = .ok (.invokestatic idx, 3)) (kk : xf_V X np L (.int r :: rest) σ') : xf_V X pc L (v1 :: rest) σ := by
  exact xf_callSN hX np hp [v1] rest hM hy hl rfl rfl (Nat.le_of_ble_eq_true hw) (xf_ble hR) hd (fun v u h => by obtain ⟨rfl, rfl⟩ := h; exact kk)
theorem xf_T1v (hX : xf_ok X l own cc nL fr lo wf D tys) (np : Nat) (hp : pc + 3 = np) {v1 : Value} (hM : xf_F l y cc' nL' ret' fr' lo' wf D tys [v1] σ none σ') (hy : xf_sta y cc' nL' ret' 1) {host : String} (hl : Cond.methodLinkNest own idx y host ∈ xf_NL) (hw : Nat.ble ((rest.map fun v => v.category).sum) 8 = true) (hR : (Nat.ble (fr' + 1) fr && Nat.ble (8 + (nL' + 11) + lo') lo) = true) (hd : decode cc pc = .ok (.invokestatic idx, 3)) (kk : xf_V X np L rest σ') : xf_V X pc L (v1 :: rest) σ := by
  exact xf_callSN hX np hp [v1] rest hM hy hl rfl rfl (Nat.le_of_ble_eq_true hw) (xf_ble hR) hd (fun v u h => by obtain ⟨rfl, rfl⟩ := h; exact kk)
theorem xf_T1r (hX : xf_ok X l own cc nL fr lo wf D tys) (np : Nat) (hp : pc + 3 = np) {v1 : Value} (hM : xf_M l y cc' nL' ret' fr' lo' wf D tys [v1] σ rq) (hy : xf_sta y cc' nL' ret' 1) {host : String} (hl : Cond.methodLinkNest own idx y host ∈ xf_NL) (hw : Nat.ble ((rest.map fun v => v.category).sum) 8 = true) (hR : (Nat.ble (fr' + 1) fr && Nat.ble (8 + (nL' + 11) + lo') lo) = true) (hd : decode cc pc = .ok (.invokestatic idx, 3)) (kk : ∀ (v : Option Value) (u : xf_S), rq v u → xf_V X np L (v.toList ++ rest) u) : xf_V X pc L (v1 :: rest) σ := by
  exact xf_callSN hX np hp [v1] rest hM hy hl rfl rfl (Nat.le_of_ble_eq_true hw) (xf_ble hR) hd kk
theorem xf_V1i (hX : xf_ok X l own cc nL fr lo wf D tys) (np : Nat) (hp : pc + 3 = np) {v1 : Value} (hM : xf_F l y cc' nL' ret' fr' lo' wf D tys [.ref b, v1] σ (some (.int r)) σ') (hy : xf_vir y cc' nL' ret' 1) (hl : Cond.methodLink own idx y ∈ xf_GW) (hrc : xf_rcv wf σ b y.cls) (hw : Nat.ble ((rest.map fun v => v.category).sum) 8 = true) (hR : (Nat.ble (fr' + 1) fr && Nat.ble (8 + (nL' + 11) + lo') lo) = true) (hd : decode cc pc = .ok (.invokevirtual idx, 3)) (kk : xf_V X np L (.int r :: rest) σ') : xf_V X pc L (v1 :: .ref b :: rest) σ := by
  obtain ⟨q0, ci, fs, r0, e1, e2, e3⟩ := hrc
  exact xf_callV hX np hp [v1] rest hM hy hl q0 ci e1 e2 e3 rfl rfl (Nat.le_of_ble_eq_true hw) (xf_ble hR) hd (fun v u h => by obtain ⟨rfl, rfl⟩ := h; exact kk)
theorem xf_V1v (hX : xf_ok X l own cc nL fr lo wf D tys) (np : Nat) (hp : pc + 3 = np) {v1 : Value} (hM : xf_F l y cc' nL' ret' fr' lo' wf D tys [.ref b, v1] σ none σ') (hy : xf_vir y cc' nL' ret' 1) (hl : Cond.methodLink own idx y ∈ xf_GW) (hrc : xf_rcv wf σ b y.cls) (hw : Nat.ble ((rest.map fun v => v.category).sum) 8 = true) (hR : (Nat.ble (fr' + 1) fr && Nat.ble (8 + (nL' + 11) + lo') lo) = true) (hd : decode cc pc = .ok (.invokevirtual idx, 3)) (kk : xf_V X np L rest σ') : xf_V X pc L (v1 :: .ref b :: rest) σ := by
  obtain ⟨q0, ci, fs, r0, e1, e2, e3⟩ := hrc
  exact xf_callV hX np hp [v1] rest hM hy hl q0 ci e1 e2 e3 rfl rfl (Nat.le_of_ble_eq_true hw) (xf_ble hR) hd (fun v u h => by obtain ⟨rfl, rfl⟩ := h; exact kk)
theorem xf_V1r (hX : xf_ok X l own cc nL fr lo wf D tys) (np : Nat) (hp : pc + 3 = np) {v1 : Value} (hM : xf_M l y cc' nL' ret' fr' lo' wf D tys [.ref b, v1] σ rq) (hy : xf_vir y cc' nL' ret' 1) (hl : Cond.methodLink own idx y ∈ xf_GW) (hrc : xf_rcv wf σ b y.cls) (hw : Nat.ble ((rest.map fun v => v.category).sum) 8 = true) (hR : (Nat.ble (fr' + 1) fr && Nat.ble (8 + (nL' + 11) + lo') lo) = true) (hd : decode cc pc = .ok (.invokevirtual idx, 3)) (kk : ∀ (v : Option Value) (u : xf_S), rq v u → xf_V X np L (v.toList ++ rest) u) : xf_V X pc L (v1 :: .ref b :: rest) σ := by
  obtain ⟨q0, ci, fs, r0, e1, e2, e3⟩ := hrc
  exact xf_callV hX np hp [v1] rest hM hy hl q0 ci e1 e2 e3 rfl rfl (Nat.le_of_ble_eq_true hw) (xf_ble hR) hd kk
theorem xf_U1i (hX : xf_ok X l own cc nL fr lo wf D tys) (np : Nat) (hp : pc + 3 = np) {v1 : Value} (hM : xf_F l y cc' nL' ret' fr' lo' wf D tys [.ref b, v1] σ (some (.int r)) σ') (hy : xf_vir y cc' nL' ret' 1) {host : String} (hl : Cond.methodLinkNest own idx y host ∈ xf_NL) (hrc : xf_rcv wf σ b y.cls) (hw : Nat.ble ((rest.map fun v => v.category).sum) 8 = true) (hR : (Nat.ble (fr' + 1) fr && Nat.ble (8 + (nL' + 11) + lo') lo) = true) (hd : decode cc pc = .ok (.invokevirtual idx, 3)) (kk : xf_V X np L (.int r :: rest) σ') : xf_V X pc L (v1 :: .ref b :: rest) σ := by
  obtain ⟨q0, ci, fs, r0, e1, e2, e3⟩ := hrc
  exact xf_callVN hX np hp [v1] rest hM hy hl q0 ci e1 e2 e3 rfl rfl (Nat.le_of_ble_eq_true hw) (xf_ble hR) hd (fun v u h => by obtain ⟨rfl, rfl⟩ := h; exact kk)
theorem xf_U1v (hX : xf_ok X l own cc nL fr lo wf D tys) (np : Nat) (hp : pc + 3 = np) {v1 : Value} (hM : xf_F l y cc' nL' ret' fr' lo' wf D tys [.ref b, v1] σ none σ') (hy : xf_vir y cc' nL' ret' 1) {host : String} (hl : Cond.methodLinkNest own idx y host ∈ xf_NL) (hrc : xf_rcv wf σ b y.cls) (hw : Nat.ble ((rest.map fun v => v.category).sum) 8 = true) (hR : (Nat.ble (fr' + 1) fr && Nat.ble (8 + (nL' + 11) + lo') lo) = true) (hd : decode cc pc = .ok (.invokevirtual idx, 3)) (kk : xf_V X np L rest σ') : xf_V X pc L (v1 :: .ref b :: rest) σ := by
  obtain ⟨q0, ci, fs, r0, e1, e2, e3⟩ := hrc
  exact xf_callVN hX np hp [v1] rest hM hy hl q0 ci e1 e2 e3 rfl rfl (Nat.le_of_ble_eq_true hw) (xf_ble hR) hd (fun v u h => by obtain ⟨rfl, rfl⟩ := h; exact kk)
theorem xf_U1r (hX : xf_ok X l own cc nL fr lo wf D tys) (np : Nat) (hp : pc + 3 = np) {v1 : Value} (hM : xf_M l y cc' nL' ret' fr' lo' wf D tys [.ref b, v1] σ rq) (hy : xf_vir y cc' nL' ret' 1) {host : String} (hl : Cond.methodLinkNest own idx y host ∈ xf_NL) (hrc : xf_rcv wf σ b y.cls) (hw : Nat.ble ((rest.map fun v => v.category).sum) 8 = true) (hR : (Nat.ble (fr' + 1) fr && Nat.ble (8 + (nL' + 11) + lo') lo) = true) (hd : decode cc pc = .ok (.invokevirtual idx, 3)) (kk : ∀ (v : Option Value) (u : xf_S), rq v u → xf_V X np L (v.toList ++ rest) u) : xf_V X pc L (v1 :: .ref b :: rest) σ := by
  obtain ⟨q0, ci, fs, r0, e1, e2, e3⟩ := hrc
  exact xf_callVN hX np hp [v1] rest hM hy hl q0 ci e1 e2 e3 rfl rfl (Nat.le_of_ble_eq_true hw) (xf_ble hR) hd kk
theorem xf_S2i (hX : xf_ok X l own cc nL fr lo wf D tys) (np : Nat) (hp : pc + 3 = np) {v1 v2 : Value} (hM : xf_F l y cc' nL' ret' fr' lo' wf D tys [v1, v2] σ (some (.int r)) σ') (hy : xf_sta y cc' nL' ret' 2) (hl : Cond.methodLink own idx y ∈ xf_GW) (hw : Nat.ble ((rest.map fun v => v.category).sum) 8 = true) (hR : (Nat.ble (fr' + 1) fr && Nat.ble (8 + (nL' + 11) + lo') lo) = true) (hd : decode cc pc = .ok (.invokestatic idx, 3)) (kk : xf_V X np L (.int r :: rest) σ') : xf_V X pc L (v2 :: v1 :: rest) σ := by
  exact xf_callS hX np hp [v1, v2] rest hM hy hl rfl rfl (Nat.le_of_ble_eq_true hw) (xf_ble hR) hd (fun v u h => by obtain ⟨rfl, rfl⟩ := h; exact kk)
theorem xf_S2v (hX : xf_ok X l own cc nL fr lo wf D tys) (np : Nat) (hp : pc + 3 = np) {v1 v2 : Value} (hM : xf_F l y cc' nL' ret' fr' lo' wf D tys [v1, v2] σ none σ') (hy : xf_sta y cc' nL' ret' 2) (hl : Cond.methodLink own idx y ∈ xf_GW) (hw : Nat.ble ((rest.map fun v => v.category).sum) 8 = true) (hR : (Nat.ble (fr' + 1) fr && Nat.ble (8 + (nL' + 11) + lo') lo) = true) (hd : decode cc pc = .ok (.invokestatic idx, 3)) (kk : xf_V X np L rest σ') : xf_V X pc L (v2 :: v1 :: rest) σ := by
  exact xf_callS hX np hp [v1, v2] rest hM hy hl rfl rfl (Nat.le_of_ble_eq_true hw) (xf_ble hR) hd (fun v u h => by obtain ⟨rfl, rfl⟩ := h; exact kk)
theorem xf_S2r (hX : xf_ok X l own cc nL fr lo wf D tys) (np : Nat) (hp : pc + 3 = np) {v1 v2 : Value} (hM : xf_M l y cc' nL' ret' fr' lo' wf D tys [v1, v2] σ rq) (hy : xf_sta y cc' nL' ret' 2) (hl : Cond.methodLink own idx y ∈ xf_GW) (hw : Nat.ble ((rest.map fun v => v.category).sum) 8 = true) (hR : (Nat.ble (fr' + 1) fr && Nat.ble (8 + (nL' + 11) + lo') lo) = true) (hd : decode cc pc = .ok (.invokestatic idx, 3)) (kk : ∀ (v : Option Value) (u : xf_S), rq v u → xf_V X np L (v.toList ++ rest) u) : xf_V X pc L (v2 :: v1 :: rest) σ := by
  exact xf_callS hX np hp [v1, v2] rest hM hy hl rfl rfl (Nat.le_of_ble_eq_true hw) (xf_ble hR) hd kk
theorem xf_T2i (hX : xf_ok X l own cc nL fr lo wf D tys) (np : Nat) (hp : pc + 3 = np) {v1 v2 : Value} (hM : xf_F l y cc' nL' ret' fr' lo' wf D tys [v1, v2] σ (some (.int r)) σ') (hy : xf_sta y cc' nL' ret' 2) {host : String} (hl : Cond.methodLinkNest own idx y host ∈ xf_NL) (hw : Nat.ble ((rest.map fun v => v.category).sum) 8 = true) (hR : (Nat.ble (fr' + 1) fr && Nat.ble (8 + (nL' + 11) + lo') lo) = true) (hd : decode cc pc = .ok (.invokestatic idx, 3)) (kk : xf_V X np L (.int r :: rest) σ') : xf_V X pc L (v2 :: v1 :: rest) σ := by
  exact xf_callSN hX np hp [v1, v2] rest hM hy hl rfl rfl (Nat.le_of_ble_eq_true hw) (xf_ble hR) hd (fun v u h => by obtain ⟨rfl, rfl⟩ := h; exact kk)
theorem xf_T2v (hX : xf_ok X l own cc nL fr lo wf D tys) (np : Nat) (hp : pc + 3 = np) {v1 v2 : Value} (hM : xf_F l y cc' nL' ret' fr' lo' wf D tys [v1, v2] σ none σ') (hy : xf_sta y cc' nL' ret' 2) {host : String} (hl : Cond.methodLinkNest own idx y host ∈ xf_NL) (hw : Nat.ble ((rest.map fun v => v.category).sum) 8 = true) (hR : (Nat.ble (fr' + 1) fr && Nat.ble (8 + (nL' + 11) + lo') lo) = true) (hd : decode cc pc = .ok (.invokestatic idx, 3)) (kk : xf_V X np L rest σ') : xf_V X pc L (v2 :: v1 :: rest) σ := by
  exact xf_callSN hX np hp [v1, v2] rest hM hy hl rfl rfl (Nat.le_of_ble_eq_true hw) (xf_ble hR) hd (fun v u h => by obtain ⟨rfl, rfl⟩ := h; exact kk)
theorem xf_T2r (hX : xf_ok X l own cc nL fr lo wf D tys) (np : Nat) (hp : pc + 3 = np) {v1 v2 : Value} (hM : xf_M l y cc' nL' ret' fr' lo' wf D tys [v1, v2] σ rq) (hy : xf_sta y cc' nL' ret' 2) {host : String} (hl : Cond.methodLinkNest own idx y host ∈ xf_NL) (hw : Nat.ble ((rest.map fun v => v.category).sum) 8 = true) (hR : (Nat.ble (fr' + 1) fr && Nat.ble (8 + (nL' + 11) + lo') lo) = true) (hd : decode cc pc = .ok (.invokestatic idx, 3)) (kk : ∀ (v : Option Value) (u : xf_S), rq v u → xf_V X np L (v.toList ++ rest) u) : xf_V X pc L (v2 :: v1 :: rest) σ := by
  exact xf_callSN hX np hp [v1, v2] rest hM hy hl rfl rfl (Nat.le_of_ble_eq_true hw) (xf_ble hR) hd kk
theorem xf_V2i (hX : xf_ok X l own cc nL fr lo wf D tys) (np : Nat) (hp : pc + 3 = np) {v1 v2 : Value} (hM : xf_F l y cc' nL' ret' fr' lo' wf D tys [.ref b, v1, v2] σ (some (.int r)) σ') (hy : xf_vir y cc' nL' ret' 2) (hl : Cond.methodLink own idx y ∈ xf_GW) (hrc : xf_rcv wf σ b y.cls) (hw : Nat.ble ((rest.map fun v => v.category).sum) 8 = true) (hR : (Nat.ble (fr' + 1) fr && Nat.ble (8 + (nL' + 11) + lo') lo) = true) (hd : decode cc pc = .ok (.invokevirtual idx, 3)) (kk : xf_V X np L (.int r :: rest) σ') : xf_V X pc L (v2 :: v1 :: .ref b :: rest) σ := by
  obtain ⟨q0, ci, fs, r0, e1, e2, e3⟩ := hrc
  exact xf_callV hX np hp [v1, v2] rest hM hy hl q0 ci e1 e2 e3 rfl rfl (Nat.le_of_ble_eq_true hw) (xf_ble hR) hd (fun v u h => by obtain ⟨rfl, rfl⟩ := h; exact kk)
theorem xf_V2v (hX : xf_ok X l own cc nL fr lo wf D tys) (np : Nat) (hp : pc + 3 = np) {v1 v2 : Value} (hM : xf_F l y cc' nL' ret' fr' lo' wf D tys [.ref b, v1, v2] σ none σ') (hy : xf_vir y cc' nL' ret' 2) (hl : Cond.methodLink own idx y ∈ xf_GW) (hrc : xf_rcv wf σ b y.cls) (hw : Nat.ble ((rest.map fun v => v.category).sum) 8 = true) (hR : (Nat.ble (fr' + 1) fr && Nat.ble (8 + (nL' + 11) + lo') lo) = true) (hd : decode cc pc = .ok (.invokevirtual idx, 3)) (kk : xf_V X np L rest σ') : xf_V X pc L (v2 :: v1 :: .ref b :: rest) σ := by
  obtain ⟨q0, ci, fs, r0, e1, e2, e3⟩ := hrc
  exact xf_callV hX np hp [v1, v2] rest hM hy hl q0 ci e1 e2 e3 rfl rfl (Nat.le_of_ble_eq_true hw) (xf_ble hR) hd (fun v u h => by obtain ⟨rfl, rfl⟩ := h; exact kk)
theorem xf_V2r (hX : xf_ok X l own cc nL fr lo wf D tys) (np : Nat) (hp : pc + 3 = np) {v1 v2 : Value} (hM : xf_M l y cc' nL' ret' fr' lo' wf D tys [.ref b, v1, v2] σ rq) (hy : xf_vir y cc' nL' ret' 2) (hl : Cond.methodLink own idx y ∈ xf_GW) (hrc : xf_rcv wf σ b y.cls) (hw : Nat.ble ((rest.map fun v => v.category).sum) 8 = true) (hR : (Nat.ble (fr' + 1) fr && Nat.ble (8 + (nL' + 11) + lo') lo) = true) (hd : decode cc pc = .ok (.invokevirtual idx, 3)) (kk : ∀ (v : Option Value) (u : xf_S), rq v u → xf_V X np L (v.toList ++ rest) u) : xf_V X pc L (v2 :: v1 :: .ref b :: rest) σ := by
  obtain ⟨q0, ci, fs, r0, e1, e2, e3⟩ := hrc
  exact xf_callV hX np hp [v1, v2] rest hM hy hl q0 ci e1 e2 e3 rfl rfl (Nat.le_of_ble_eq_true hw) (xf_ble hR) hd kk
theorem xf_U2i (hX : xf_ok X l own cc nL fr lo wf D tys) (np : Nat) (hp : pc + 3 = np) {v1 v2 : Value} (hM : xf_F l y cc' nL' ret' fr' lo' wf D tys [.ref b, v1, v2] σ (some (.int r)) σ') (hy : xf_vir y cc' nL' ret' 2) {host : String} (hl : Cond.methodLinkNest own idx y host ∈ xf_NL) (hrc : xf_rcv wf σ b y.cls) (hw : Nat.ble ((rest.map fun v => v.category).sum) 8 = true) (hR : (Nat.ble (fr' + 1) fr && Nat.ble (8 + (nL' + 11) + lo') lo) = true) (hd : decode cc pc = .ok (.invokevirtual idx, 3)) (kk : xf_V X np L (.int r :: rest) σ') : xf_V X pc L (v2 :: v1 :: .ref b :: rest) σ := by
  obtain ⟨q0, ci, fs, r0, e1, e2, e3⟩ := hrc
  exact xf_callVN hX np hp [v1, v2] rest hM hy hl q0 ci e1 e2 e3 rfl rfl (Nat.le_of_ble_eq_true hw) (xf_ble hR) hd (fun v u h => by obtain ⟨rfl, rfl⟩ := h; exact kk)
theorem xf_U2v (hX : xf_ok X l own cc nL fr lo wf D tys) (np : Nat) (hp : pc + 3 = np) {v1 v2 : Value} (hM : xf_F l y cc' nL' ret' fr' lo' wf D tys [.ref b, v1, v2] σ none σ') (hy : xf_vir y cc' nL' ret' 2) {host : String} (hl : Cond.methodLinkNest own idx y host ∈ xf_NL) (hrc : xf_rcv wf σ b y.cls) (hw : Nat.ble ((rest.map fun v => v.category).sum) 8 = true) (hR : (Nat.ble (fr' + 1) fr && Nat.ble (8 + (nL' + 11) + lo') lo) = true) (hd : decode cc pc = .ok (.invokevirtual idx, 3)) (kk : xf_V X np L rest σ') : xf_V X pc L (v2 :: v1 :: .ref b :: rest) σ := by
  obtain ⟨q0, ci, fs, r0, e1, e2, e3⟩ := hrc
  exact xf_callVN hX np hp [v1, v2] rest hM hy hl q0 ci e1 e2 e3 rfl rfl (Nat.le_of_ble_eq_true hw) (xf_ble hR) hd (fun v u h => by obtain ⟨rfl, rfl⟩ := h; exact kk)
theorem xf_U2r (hX : xf_ok X l own cc nL fr lo wf D tys) (np : Nat) (hp : pc + 3 = np) {v1 v2 : Value} (hM : xf_M l y cc' nL' ret' fr' lo' wf D tys [.ref b, v1, v2] σ rq) (hy : xf_vir y cc' nL' ret' 2) {host : String} (hl : Cond.methodLinkNest own idx y host ∈ xf_NL) (hrc : xf_rcv wf σ b y.cls) (hw : Nat.ble ((rest.map fun v => v.category).sum) 8 = true) (hR : (Nat.ble (fr' + 1) fr && Nat.ble (8 + (nL' + 11) + lo') lo) = true) (hd : decode cc pc = .ok (.invokevirtual idx, 3)) (kk : ∀ (v : Option Value) (u : xf_S), rq v u → xf_V X np L (v.toList ++ rest) u) : xf_V X pc L (v2 :: v1 :: .ref b :: rest) σ := by
  obtain ⟨q0, ci, fs, r0, e1, e2, e3⟩ := hrc
  exact xf_callVN hX np hp [v1, v2] rest hM hy hl q0 ci e1 e2 e3 rfl rfl (Nat.le_of_ble_eq_true hw) (xf_ble hR) hd kk
theorem xf_S3i (hX : xf_ok X l own cc nL fr lo wf D tys) (np : Nat) (hp : pc + 3 = np) {v1 v2 v3 : Value} (hM : xf_F l y cc' nL' ret' fr' lo' wf D tys [v1, v2, v3] σ (some (.int r)) σ') (hy : xf_sta y cc' nL' ret' 3) (hl : Cond.methodLink own idx y ∈ xf_GW) (hw : Nat.ble ((rest.map fun v => v.category).sum) 8 = true) (hR : (Nat.ble (fr' + 1) fr && Nat.ble (8 + (nL' + 11) + lo') lo) = true) (hd : decode cc pc = .ok (.invokestatic idx, 3)) (kk : xf_V X np L (.int r :: rest) σ') : xf_V X pc L (v3 :: v2 :: v1 :: rest) σ := by
  exact xf_callS hX np hp [v1, v2, v3] rest hM hy hl rfl rfl (Nat.le_of_ble_eq_true hw) (xf_ble hR) hd (fun v u h => by obtain ⟨rfl, rfl⟩ := h; exact kk)
theorem xf_S3v (hX : xf_ok X l own cc nL fr lo wf D tys) (np : Nat) (hp : pc + 3 = np) {v1 v2 v3 : Value} (hM : xf_F l y cc' nL' ret' fr' lo' wf D tys [v1, v2, v3] σ none σ') (hy : xf_sta y cc' nL' ret' 3) (hl : Cond.methodLink own idx y ∈ xf_GW) (hw : Nat.ble ((rest.map fun v => v.category).sum) 8 = true) (hR : (Nat.ble (fr' + 1) fr && Nat.ble (8 + (nL' + 11) + lo') lo) = true) (hd : decode cc pc = .ok (.invokestatic idx, 3)) (kk : xf_V X np L rest σ') : xf_V X pc L (v3 :: v2 :: v1 :: rest) σ := by
  exact xf_callS hX np hp [v1, v2, v3] rest hM hy hl rfl rfl (Nat.le_of_ble_eq_true hw) (xf_ble hR) hd (fun v u h => by obtain ⟨rfl, rfl⟩ := h; exact kk)
theorem xf_S3r (hX : xf_ok X l own cc nL fr lo wf D tys) (np : Nat) (hp : pc + 3 = np) {v1 v2 v3 : Value} (hM : xf_M l y cc' nL' ret' fr' lo' wf D tys [v1, v2, v3] σ rq) (hy : xf_sta y cc' nL' ret' 3) (hl : Cond.methodLink own idx y ∈ xf_GW) (hw : Nat.ble ((rest.map fun v => v.category).sum) 8 = true) (hR : (Nat.ble (fr' + 1) fr && Nat.ble (8 + (nL' + 11) + lo') lo) = true) (hd : decode cc pc = .ok (.invokestatic idx, 3)) (kk : ∀ (v : Option Value) (u : xf_S), rq v u → xf_V X np L (v.toList ++ rest) u) : xf_V X pc L (v3 :: v2 :: v1 :: rest) σ := by
  exact xf_callS hX np hp [v1, v2, v3] rest hM hy hl rfl rfl (Nat.le_of_ble_eq_true hw) (xf_ble hR) hd kk
theorem xf_T3i (hX : xf_ok X l own cc nL fr lo wf D tys) (np : Nat) (hp : pc + 3 = np) {v1 v2 v3 : Value} (hM : xf_F l y cc' nL' ret' fr' lo' wf D tys [v1, v2, v3] σ (some (.int r)) σ') (hy : xf_sta y cc' nL' ret' 3) {host : String} (hl : Cond.methodLinkNest own idx y host ∈ xf_NL) (hw : Nat.ble ((rest.map fun v => v.category).sum) 8 = true) (hR : (Nat.ble (fr' + 1) fr && Nat.ble (8 + (nL' + 11) + lo') lo) = true) (hd : decode cc pc = .ok (.invokestatic idx, 3)) (kk : xf_V X np L (.int r :: rest) σ') : xf_V X pc L (v3 :: v2 :: v1 :: rest) σ := by
  exact xf_callSN hX np hp [v1, v2, v3] rest hM hy hl rfl rfl (Nat.le_of_ble_eq_true hw) (xf_ble hR) hd (fun v u h => by obtain ⟨rfl, rfl⟩ := h; exact kk)
theorem xf_T3v (hX : xf_ok X l own cc nL fr lo wf D tys) (np : Nat) (hp : pc + 3 = np) {v1 v2 v3 : Value} (hM : xf_F l y cc' nL' ret' fr' lo' wf D tys [v1, v2, v3] σ none σ') (hy : xf_sta y cc' nL' ret' 3) {host : String} (hl : Cond.methodLinkNest own idx y host ∈ xf_NL) (hw : Nat.ble ((rest.map fun v => v.category).sum) 8 = true) (hR : (Nat.ble (fr' + 1) fr && Nat.ble (8 + (nL' + 11) + lo') lo) = true) (hd : decode cc pc = .ok (.invokestatic idx, 3)) (kk : xf_V X np L rest σ') : xf_V X pc L (v3 :: v2 :: v1 :: rest) σ := by
  exact xf_callSN hX np hp [v1, v2, v3] rest hM hy hl rfl rfl (Nat.le_of_ble_eq_true hw) (xf_ble hR) hd (fun v u h => by obtain ⟨rfl, rfl⟩ := h; exact kk)
theorem xf_T3r (hX : xf_ok X l own cc nL fr lo wf D tys) (np : Nat) (hp : pc + 3 = np) {v1 v2 v3 : Value} (hM : xf_M l y cc' nL' ret' fr' lo' wf D tys [v1, v2, v3] σ rq) (hy : xf_sta y cc' nL' ret' 3) {host : String} (hl : Cond.methodLinkNest own idx y host ∈ xf_NL) (hw : Nat.ble ((rest.map fun v => v.category).sum) 8 = true) (hR : (Nat.ble (fr' + 1) fr && Nat.ble (8 + (nL' + 11) + lo') lo) = true) (hd : decode cc pc = .ok (.invokestatic idx, 3)) (kk : ∀ (v : Option Value) (u : xf_S), rq v u → xf_V X np L (v.toList ++ rest) u) : xf_V X pc L (v3 :: v2 :: v1 :: rest) σ := by
  exact xf_callSN hX np hp [v1, v2, v3] rest hM hy hl rfl rfl (Nat.le_of_ble_eq_true hw) (xf_ble hR) hd kk
theorem xf_V3i (hX : xf_ok X l own cc nL fr lo wf D tys) (np : Nat) (hp : pc + 3 = np) {v1 v2 v3 : Value} (hM : xf_F l y cc' nL' ret' fr' lo' wf D tys [.ref b, v1, v2, v3] σ (some (.int r)) σ') (hy : xf_vir y cc' nL' ret' 3) (hl : Cond.methodLink own idx y ∈ xf_GW) (hrc : xf_rcv wf σ b y.cls) (hw : Nat.ble ((rest.map fun v => v.category).sum) 8 = true) (hR : (Nat.ble (fr' + 1) fr && Nat.ble (8 + (nL' + 11) + lo') lo) = true) (hd : decode cc pc = .ok (.invokevirtual idx, 3)) (kk : xf_V X np L (.int r :: rest) σ') : xf_V X pc L (v3 :: v2 :: v1 :: .ref b :: rest) σ := by
  obtain ⟨q0, ci, fs, r0, e1, e2, e3⟩ := hrc
  exact xf_callV hX np hp [v1, v2, v3] rest hM hy hl q0 ci e1 e2 e3 rfl rfl (Nat.le_of_ble_eq_true hw) (xf_ble hR) hd (fun v u h => by obtain ⟨rfl, rfl⟩ := h; exact kk)
theorem xf_V3v (hX : xf_ok X l own cc nL fr lo wf D tys) (np : Nat) (hp : pc + 3 = np) {v1 v2 v3 : Value} (hM : xf_F l y cc' nL' ret' fr' lo' wf D tys [.ref b, v1, v2, v3] σ none σ') (hy : xf_vir y cc' nL' ret' 3) (hl : Cond.methodLink own idx y ∈ xf_GW) (hrc : xf_rcv wf σ b y.cls) (hw : Nat.ble ((rest.map fun v => v.category).sum) 8 = true) (hR : (Nat.ble (fr' + 1) fr && Nat.ble (8 + (nL' + 11) + lo') lo) = true) (hd : decode cc pc = .ok (.invokevirtual idx, 3)) (kk : xf_V X np L rest σ') : xf_V X pc L (v3 :: v2 :: v1 :: .ref b :: rest) σ := by
  obtain ⟨q0, ci, fs, r0, e1, e2, e3⟩ := hrc
  exact xf_callV hX np hp [v1, v2, v3] rest hM hy hl q0 ci e1 e2 e3 rfl rfl (Nat.le_of_ble_eq_true hw) (xf_ble hR) hd (fun v u h => by obtain ⟨rfl, rfl⟩ := h; exact kk)
theorem xf_V3r (hX : xf_ok X l own cc nL fr lo wf D tys) (np : Nat) (hp : pc + 3 = np) {v1 v2 v3 : Value} (hM : xf_M l y cc' nL' ret' fr' lo' wf D tys [.ref b, v1, v2, v3] σ rq) (hy : xf_vir y cc' nL' ret' 3) (hl : Cond.methodLink own idx y ∈ xf_GW) (hrc : xf_rcv wf σ b y.cls) (hw : Nat.ble ((rest.map fun v => v.category).sum) 8 = true) (hR : (Nat.ble (fr' + 1) fr && Nat.ble (8 + (nL' + 11) + lo') lo) = true) (hd : decode cc pc = .ok (.invokevirtual idx, 3)) (kk : ∀ (v : Option Value) (u : xf_S), rq v u → xf_V X np L (v.toList ++ rest) u) : xf_V X pc L (v3 :: v2 :: v1 :: .ref b :: rest) σ := by
  obtain ⟨q0, ci, fs, r0, e1, e2, e3⟩ := hrc
  exact xf_callV hX np hp [v1, v2, v3] rest hM hy hl q0 ci e1 e2 e3 rfl rfl (Nat.le_of_ble_eq_true hw) (xf_ble hR) hd kk
theorem xf_U3i (hX : xf_ok X l own cc nL fr lo wf D tys) (np : Nat) (hp : pc + 3 = np) {v1 v2 v3 : Value} (hM : xf_F l y cc' nL' ret' fr' lo' wf D tys [.ref b, v1, v2, v3] σ (some (.int r)) σ') (hy : xf_vir y cc' nL' ret' 3) {host : String} (hl : Cond.methodLinkNest own idx y host ∈ xf_NL) (hrc : xf_rcv wf σ b y.cls) (hw : Nat.ble ((rest.map fun v => v.category).sum) 8 = true) (hR : (Nat.ble (fr' + 1) fr && Nat.ble (8 + (nL' + 11) + lo') lo) = true) (hd : decode cc pc = .ok (.invokevirtual idx, 3)) (kk : xf_V X np L (.int r :: rest) σ') : xf_V X pc L (v3 :: v2 :: v1 :: .ref b :: rest) σ := by
  obtain ⟨q0, ci, fs, r0, e1, e2, e3⟩ := hrc
  exact xf_callVN hX np hp [v1, v2, v3] rest hM hy hl q0 ci e1 e2 e3 rfl rfl (Nat.le_of_ble_eq_true hw) (xf_ble hR) hd (fun v u h => by obtain ⟨rfl, rfl⟩ := h; exact kk)
theorem xf_U3v (hX : xf_ok X l own cc nL fr lo wf D tys) (np : Nat) (hp : pc + 3 = np) {v1 v2 v3 : Value} (hM : xf_F l y cc' nL' ret' fr' lo' wf D tys [.ref b, v1, v2, v3] σ none σ') (hy : xf_vir y cc' nL' ret' 3) {host : String} (hl : Cond.methodLinkNest own idx y host ∈ xf_NL) (hrc : xf_rcv wf σ b y.cls) (hw : Nat.ble ((rest.map fun v => v.category).sum) 8 = true) (hR : (Nat.ble (fr' + 1) fr && Nat.ble (8 + (nL' + 11) + lo') lo) = true) (hd : decode cc pc = .ok (.invokevirtual idx, 3)) (kk : xf_V X np L rest σ') : xf_V X pc L (v3 :: v2 :: v1 :: .ref b :: rest) σ := by
  obtain ⟨q0, ci, fs, r0, e1, e2, e3⟩ := hrc
  exact xf_callVN hX np hp [v1, v2, v3] rest hM hy hl q0 ci e1 e2 e3 rfl rfl (Nat.le_of_ble_eq_true hw) (xf_ble hR) hd (fun v u h => by obtain ⟨rfl, rfl⟩ := h; exact kk)
theorem xf_U3r (hX : xf_ok X l own cc nL fr lo wf D tys) (np : Nat) (hp : pc + 3 = np) {v1 v2 v3 : Value} (hM : xf_M l y cc' nL' ret' fr' lo' wf D tys [.ref b, v1, v2, v3] σ rq) (hy : xf_vir y cc' nL' ret' 3) {host : String} (hl : Cond.methodLinkNest own idx y host ∈ xf_NL) (hrc : xf_rcv wf σ b y.cls) (hw : Nat.ble ((rest.map fun v => v.category).sum) 8 = true) (hR : (Nat.ble (fr' + 1) fr && Nat.ble (8 + (nL' + 11) + lo') lo) = true) (hd : decode cc pc = .ok (.invokevirtual idx, 3)) (kk : ∀ (v : Option Value) (u : xf_S), rq v u → xf_V X np L (v.toList ++ rest) u) : xf_V X pc L (v3 :: v2 :: v1 :: .ref b :: rest) σ := by
  obtain ⟨q0, ci, fs, r0, e1, e2, e3⟩ := hrc
  exact xf_callVN hX np hp [v1, v2, v3] rest hM hy hl q0 ci e1 e2 e3 rfl rfl (Nat.le_of_ble_eq_true hw) (xf_ble hR) hd kk
theorem xf_S4i (hX : xf_ok X l own cc nL fr lo wf D tys) (np : Nat) (hp : pc + 3 = np) {v1 v2 v3 v4 : Value} (hM : xf_F l y cc' nL' ret' fr' lo' wf D tys [v1, v2, v3, v4] σ (some (.int r)) σ') (hy : xf_sta y cc' nL' ret' 4) (hl : Cond.methodLink own idx y ∈ xf_GW) (hw : Nat.ble ((rest.map fun v => v.category).sum) 8 = true) (hR : (Nat.ble (fr' + 1) fr && Nat.ble (8 + (nL' + 11) + lo') lo) = true) (hd : decode cc pc = .ok (.invokestatic idx, 3)) (kk : xf_V X np L (.int r :: rest) σ') : xf_V X pc L (v4 :: v3 :: v2 :: v1 :: rest) σ := by
  exact xf_callS hX np hp [v1, v2, v3, v4] rest hM hy hl rfl rfl (Nat.le_of_ble_eq_true hw) (xf_ble hR) hd (fun v u h => by obtain ⟨rfl, rfl⟩ := h; exact kk)
theorem xf_S4v (hX : xf_ok X l own cc nL fr lo wf D tys) (np : Nat) (hp : pc + 3 = np) {v1 v2 v3 v4 : Value} (hM : xf_F l y cc' nL' ret' fr' lo' wf D tys [v1, v2, v3, v4] σ none σ') (hy : xf_sta y cc' nL' ret' 4) (hl : Cond.methodLink own idx y ∈ xf_GW) (hw : Nat.ble ((rest.map fun v => v.category).sum) 8 = true) (hR : (Nat.ble (fr' + 1) fr && Nat.ble (8 + (nL' + 11) + lo') lo) = true) (hd : decode cc pc = .ok (.invokestatic idx, 3)) (kk : xf_V X np L rest σ') : xf_V X pc L (v4 :: v3 :: v2 :: v1 :: rest) σ := by
  exact xf_callS hX np hp [v1, v2, v3, v4] rest hM hy hl rfl rfl (Nat.le_of_ble_eq_true hw) (xf_ble hR) hd (fun v u h => by obtain ⟨rfl, rfl⟩ := h; exact kk)
theorem xf_S4r (hX : xf_ok X l own cc nL fr lo wf D tys) (np : Nat) (hp : pc + 3 = np) {v1 v2 v3 v4 : Value} (hM : xf_M l y cc' nL' ret' fr' lo' wf D tys [v1, v2, v3, v4] σ rq) (hy : xf_sta y cc' nL' ret' 4) (hl : Cond.methodLink own idx y ∈ xf_GW) (hw : Nat.ble ((rest.map fun v => v.category).sum) 8 = true) (hR : (Nat.ble (fr' + 1) fr && Nat.ble (8 + (nL' + 11) + lo') lo) = true) (hd : decode cc pc = .ok (.invokestatic idx, 3)) (kk : ∀ (v : Option Value) (u : xf_S), rq v u → xf_V X np L (v.toList ++ rest) u) : xf_V X pc L (v4 :: v3 :: v2 :: v1 :: rest) σ := by
  exact xf_callS hX np hp [v1, v2, v3, v4] rest hM hy hl rfl rfl (Nat.le_of_ble_eq_true hw) (xf_ble hR) hd kk
theorem xf_T4i (hX : xf_ok X l own cc nL fr lo wf D tys) (np : Nat) (hp : pc + 3 = np) {v1 v2 v3 v4 : Value} (hM : xf_F l y cc' nL' ret' fr' lo' wf D tys [v1, v2, v3, v4] σ (some (.int r)) σ') (hy : xf_sta y cc' nL' ret' 4) {host : String} (hl : Cond.methodLinkNest own idx y host ∈ xf_NL) (hw : Nat.ble ((rest.map fun v => v.category).sum) 8 = true) (hR : (Nat.ble (fr' + 1) fr && Nat.ble (8 + (nL' + 11) + lo') lo) = true) (hd : decode cc pc = .ok (.invokestatic idx, 3)) (kk : xf_V X np L (.int r :: rest) σ') : xf_V X pc L (v4 :: v3 :: v2 :: v1 :: rest) σ := by
  exact xf_callSN hX np hp [v1, v2, v3, v4] rest hM hy hl rfl rfl (Nat.le_of_ble_eq_true hw) (xf_ble hR) hd (fun v u h => by obtain ⟨rfl, rfl⟩ := h; exact kk)
theorem xf_T4v (hX : xf_ok X l own cc nL fr lo wf D tys) (np : Nat) (hp : pc + 3 = np) {v1 v2 v3 v4 : Value} (hM : xf_F l y cc' nL' ret' fr' lo' wf D tys [v1, v2, v3, v4] σ none σ') (hy : xf_sta y cc' nL' ret' 4) {host : String} (hl : Cond.methodLinkNest own idx y host ∈ xf_NL) (hw : Nat.ble ((rest.map fun v => v.category).sum) 8 = true) (hR : (Nat.ble (fr' + 1) fr && Nat.ble (8 + (nL' + 11) + lo') lo) = true) (hd : decode cc pc = .ok (.invokestatic idx, 3)) (kk : xf_V X np L rest σ') : xf_V X pc L (v4 :: v3 :: v2 :: v1 :: rest) σ := by
  exact xf_callSN hX np hp [v1, v2, v3, v4] rest hM hy hl rfl rfl (Nat.le_of_ble_eq_true hw) (xf_ble hR) hd (fun v u h => by obtain ⟨rfl, rfl⟩ := h; exact kk)
theorem xf_T4r (hX : xf_ok X l own cc nL fr lo wf D tys) (np : Nat) (hp : pc + 3 = np) {v1 v2 v3 v4 : Value} (hM : xf_M l y cc' nL' ret' fr' lo' wf D tys [v1, v2, v3, v4] σ rq) (hy : xf_sta y cc' nL' ret' 4) {host : String} (hl : Cond.methodLinkNest own idx y host ∈ xf_NL) (hw : Nat.ble ((rest.map fun v => v.category).sum) 8 = true) (hR : (Nat.ble (fr' + 1) fr && Nat.ble (8 + (nL' + 11) + lo') lo) = true) (hd : decode cc pc = .ok (.invokestatic idx, 3)) (kk : ∀ (v : Option Value) (u : xf_S), rq v u → xf_V X np L (v.toList ++ rest) u) : xf_V X pc L (v4 :: v3 :: v2 :: v1 :: rest) σ := by
  exact xf_callSN hX np hp [v1, v2, v3, v4] rest hM hy hl rfl rfl (Nat.le_of_ble_eq_true hw) (xf_ble hR) hd kk
theorem xf_V4i (hX : xf_ok X l own cc nL fr lo wf D tys) (np : Nat) (hp : pc + 3 = np) {v1 v2 v3 v4 : Value} (hM : xf_F l y cc' nL' ret' fr' lo' wf D tys [.ref b, v1, v2, v3, v4] σ (some (.int r)) σ') (hy : xf_vir y cc' nL' ret' 4) (hl : Cond.methodLink own idx y ∈ xf_GW) (hrc : xf_rcv wf σ b y.cls) (hw : Nat.ble ((rest.map fun v => v.category).sum) 8 = true) (hR : (Nat.ble (fr' + 1) fr && Nat.ble (8 + (nL' + 11) + lo') lo) = true) (hd : decode cc pc = .ok (.invokevirtual idx, 3)) (kk : xf_V X np L (.int r :: rest) σ') : xf_V X pc L (v4 :: v3 :: v2 :: v1 :: .ref b :: rest) σ := by
  obtain ⟨q0, ci, fs, r0, e1, e2, e3⟩ := hrc
  exact xf_callV hX np hp [v1, v2, v3, v4] rest hM hy hl q0 ci e1 e2 e3 rfl rfl (Nat.le_of_ble_eq_true hw) (xf_ble hR) hd (fun v u h => by obtain ⟨rfl, rfl⟩ := h; exact kk)
theorem xf_V4v (hX : xf_ok X l own cc nL fr lo wf D tys) (np : Nat) (hp : pc + 3 = np) {v1 v2 v3 v4 : Value} (hM : xf_F l y cc' nL' ret' fr' lo' wf D tys [.ref b, v1, v2, v3, v4] σ none σ') (hy : xf_vir y cc' nL' ret' 4) (hl : Cond.methodLink own idx y ∈ xf_GW) (hrc : xf_rcv wf σ b y.cls) (hw : Nat.ble ((rest.map fun v => v.category).sum) 8 = true) (hR : (Nat.ble (fr' + 1) fr && Nat.ble (8 + (nL' + 11) + lo') lo) = true) (hd : decode cc pc = .ok (.invokevirtual idx, 3)) (kk : xf_V X np L rest σ') : xf_V X pc L (v4 :: v3 :: v2 :: v1 :: .ref b :: rest) σ := by
  obtain ⟨q0, ci, fs, r0, e1, e2, e3⟩ := hrc
  exact xf_callV hX np hp [v1, v2, v3, v4] rest hM hy hl q0 ci e1 e2 e3 rfl rfl (Nat.le_of_ble_eq_true hw) (xf_ble hR) hd (fun v u h => by obtain ⟨rfl, rfl⟩ := h; exact kk)
theorem xf_V4r (hX : xf_ok X l own cc nL fr lo wf D tys) (np : Nat) (hp : pc + 3 = np) {v1 v2 v3 v4 : Value} (hM : xf_M l y cc' nL' ret' fr' lo' wf D tys [.ref b, v1, v2, v3, v4] σ rq) (hy : xf_vir y cc' nL' ret' 4) (hl : Cond.methodLink own idx y ∈ xf_GW) (hrc : xf_rcv wf σ b y.cls) (hw : Nat.ble ((rest.map fun v => v.category).sum) 8 = true) (hR : (Nat.ble (fr' + 1) fr && Nat.ble (8 + (nL' + 11) + lo') lo) = true) (hd : decode cc pc = .ok (.invokevirtual idx, 3)) (kk : ∀ (v : Option Value) (u : xf_S), rq v u → xf_V X np L (v.toList ++ rest) u) : xf_V X pc L (v4 :: v3 :: v2 :: v1 :: .ref b :: rest) σ := by
  obtain ⟨q0, ci, fs, r0, e1, e2, e3⟩ := hrc
  exact xf_callV hX np hp [v1, v2, v3, v4] rest hM hy hl q0 ci e1 e2 e3 rfl rfl (Nat.le_of_ble_eq_true hw) (xf_ble hR) hd kk
theorem xf_U4i (hX : xf_ok X l own cc nL fr lo wf D tys) (np : Nat) (hp : pc + 3 = np) {v1 v2 v3 v4 : Value} (hM : xf_F l y cc' nL' ret' fr' lo' wf D tys [.ref b, v1, v2, v3, v4] σ (some (.int r)) σ') (hy : xf_vir y cc' nL' ret' 4) {host : String} (hl : Cond.methodLinkNest own idx y host ∈ xf_NL) (hrc : xf_rcv wf σ b y.cls) (hw : Nat.ble ((rest.map fun v => v.category).sum) 8 = true) (hR : (Nat.ble (fr' + 1) fr && Nat.ble (8 + (nL' + 11) + lo') lo) = true) (hd : decode cc pc = .ok (.invokevirtual idx, 3)) (kk : xf_V X np L (.int r :: rest) σ') : xf_V X pc L (v4 :: v3 :: v2 :: v1 :: .ref b :: rest) σ := by
  obtain ⟨q0, ci, fs, r0, e1, e2, e3⟩ := hrc
  exact xf_callVN hX np hp [v1, v2, v3, v4] rest hM hy hl q0 ci e1 e2 e3 rfl rfl (Nat.le_of_ble_eq_true hw) (xf_ble hR) hd (fun v u h => by obtain ⟨rfl, rfl⟩ := h; exact kk)
theorem xf_U4v (hX : xf_ok X l own cc nL fr lo wf D tys) (np : Nat) (hp : pc + 3 = np) {v1 v2 v3 v4 : Value} (hM : xf_F l y cc' nL' ret' fr' lo' wf D tys [.ref b, v1, v2, v3, v4] σ none σ') (hy : xf_vir y cc' nL' ret' 4) {host : String} (hl : Cond.methodLinkNest own idx y host ∈ xf_NL) (hrc : xf_rcv wf σ b y.cls) (hw : Nat.ble ((rest.map fun v => v.category).sum) 8 = true) (hR : (Nat.ble (fr' + 1) fr && Nat.ble (8 + (nL' + 11) + lo') lo) = true) (hd : decode cc pc = .ok (.invokevirtual idx, 3)) (kk : xf_V X np L rest σ') : xf_V X pc L (v4 :: v3 :: v2 :: v1 :: .ref b :: rest) σ := by
  obtain ⟨q0, ci, fs, r0, e1, e2, e3⟩ := hrc
  exact xf_callVN hX np hp [v1, v2, v3, v4] rest hM hy hl q0 ci e1 e2 e3 rfl rfl (Nat.le_of_ble_eq_true hw) (xf_ble hR) hd (fun v u h => by obtain ⟨rfl, rfl⟩ := h; exact kk)
theorem xf_U4r (hX : xf_ok X l own cc nL fr lo wf D tys) (np : Nat) (hp : pc + 3 = np) {v1 v2 v3 v4 : Value} (hM : xf_M l y cc' nL' ret' fr' lo' wf D tys [.ref b, v1, v2, v3, v4] σ rq) (hy : xf_vir y cc' nL' ret' 4) {host : String} (hl : Cond.methodLinkNest own idx y host ∈ xf_NL) (hrc : xf_rcv wf σ b y.cls) (hw : Nat.ble ((rest.map fun v => v.category).sum) 8 = true) (hR : (Nat.ble (fr' + 1) fr && Nat.ble (8 + (nL' + 11) + lo') lo) = true) (hd : decode cc pc = .ok (.invokevirtual idx, 3)) (kk : ∀ (v : Option Value) (u : xf_S), rq v u → xf_V X np L (v.toList ++ rest) u) : xf_V X pc L (v4 :: v3 :: v2 :: v1 :: .ref b :: rest) σ := by
  obtain ⟨q0, ci, fs, r0, e1, e2, e3⟩ := hrc
  exact xf_callVN hX np hp [v1, v2, v3, v4] rest hM hy hl q0 ci e1 e2 e3 rfl rfl (Nat.le_of_ble_eq_true hw) (xf_ble hR) hd kk
theorem xf_S5i (hX : xf_ok X l own cc nL fr lo wf D tys) (np : Nat) (hp : pc + 3 = np) {v1 v2 v3 v4 v5 : Value} (hM : xf_F l y cc' nL' ret' fr' lo' wf D tys [v1, v2, v3, v4, v5] σ (some (.int r)) σ') (hy : xf_sta y cc' nL' ret' 5) (hl : Cond.methodLink own idx y ∈ xf_GW) (hw : Nat.ble ((rest.map fun v => v.category).sum) 8 = true) (hR : (Nat.ble (fr' + 1) fr && Nat.ble (8 + (nL' + 11) + lo') lo) = true) (hd : decode cc pc = .ok (.invokestatic idx, 3)) (kk : xf_V X np L (.int r :: rest) σ') : xf_V X pc L (v5 :: v4 :: v3 :: v2 :: v1 :: rest) σ := by
  exact xf_callS hX np hp [v1, v2, v3, v4, v5] rest hM hy hl rfl rfl (Nat.le_of_ble_eq_true hw) (xf_ble hR) hd (fun v u h => by obtain ⟨rfl, rfl⟩ := h; exact kk)
theorem xf_S5v (hX : xf_ok X l own cc nL fr lo wf D tys) (np : Nat) (hp : pc + 3 = np) {v1 v2 v3 v4 v5 : Value} (hM : xf_F l y cc' nL' ret' fr' lo' wf D tys [v1, v2, v3, v4, v5] σ none σ') (hy : xf_sta y cc' nL' ret' 5) (hl : Cond.methodLink own idx y ∈ xf_GW) (hw : Nat.ble ((rest.map fun v => v.category).sum) 8 = true) (hR : (Nat.ble (fr' + 1) fr && Nat.ble (8 + (nL' + 11) + lo') lo) = true) (hd : decode cc pc = .ok (.invokestatic idx, 3)) (kk : xf_V X np L rest σ') : xf_V X pc L (v5 :: v4 :: v3 :: v2 :: v1 :: rest) σ := by
  exact xf_callS hX np hp [v1, v2, v3, v4, v5] rest hM hy hl rfl rfl (Nat.le_of_ble_eq_true hw) (xf_ble hR) hd (fun v u h => by obtain ⟨rfl, rfl⟩ := h; exact kk)
theorem xf_S5r (hX : xf_ok X l own cc nL fr lo wf D tys) (np : Nat) (hp : pc + 3 = np) {v1 v2 v3 v4 v5 : Value} (hM : xf_M l y cc' nL' ret' fr' lo' wf D tys [v1, v2, v3, v4, v5] σ rq) (hy : xf_sta y cc' nL' ret' 5) (hl : Cond.methodLink own idx y ∈ xf_GW) (hw : Nat.ble ((rest.map fun v => v.category).sum) 8 = true) (hR : (Nat.ble (fr' + 1) fr && Nat.ble (8 + (nL' + 11) + lo') lo) = true) (hd : decode cc pc = .ok (.invokestatic idx, 3)) (kk : ∀ (v : Option Value) (u : xf_S), rq v u → xf_V X np L (v.toList ++ rest) u) : xf_V X pc L (v5 :: v4 :: v3 :: v2 :: v1 :: rest) σ := by
  exact xf_callS hX np hp [v1, v2, v3, v4, v5] rest hM hy hl rfl rfl (Nat.le_of_ble_eq_true hw) (xf_ble hR) hd kk
theorem xf_T5i (hX : xf_ok X l own cc nL fr lo wf D tys) (np : Nat) (hp : pc + 3 = np) {v1 v2 v3 v4 v5 : Value} (hM : xf_F l y cc' nL' ret' fr' lo' wf D tys [v1, v2, v3, v4, v5] σ (some (.int r)) σ') (hy : xf_sta y cc' nL' ret' 5) {host : String} (hl : Cond.methodLinkNest own idx y host ∈ xf_NL) (hw : Nat.ble ((rest.map fun v => v.category).sum) 8 = true) (hR : (Nat.ble (fr' + 1) fr && Nat.ble (8 + (nL' + 11) + lo') lo) = true) (hd : decode cc pc = .ok (.invokestatic idx, 3)) (kk : xf_V X np L (.int r :: rest) σ') : xf_V X pc L (v5 :: v4 :: v3 :: v2 :: v1 :: rest) σ := by
  exact xf_callSN hX np hp [v1, v2, v3, v4, v5] rest hM hy hl rfl rfl (Nat.le_of_ble_eq_true hw) (xf_ble hR) hd (fun v u h => by obtain ⟨rfl, rfl⟩ := h; exact kk)
theorem xf_T5v (hX : xf_ok X l own cc nL fr lo wf D tys) (np : Nat) (hp : pc + 3 = np) {v1 v2 v3 v4 v5 : Value} (hM : xf_F l y cc' nL' ret' fr' lo' wf D tys [v1, v2, v3, v4, v5] σ none σ') (hy : xf_sta y cc' nL' ret' 5) {host : String} (hl : Cond.methodLinkNest own idx y host ∈ xf_NL) (hw : Nat.ble ((rest.map fun v => v.category).sum) 8 = true) (hR : (Nat.ble (fr' + 1) fr && Nat.ble (8 + (nL' + 11) + lo') lo) = true) (hd : decode cc pc = .ok (.invokestatic idx, 3)) (kk : xf_V X np L rest σ') : xf_V X pc L (v5 :: v4 :: v3 :: v2 :: v1 :: rest) σ := by
  exact xf_callSN hX np hp [v1, v2, v3, v4, v5] rest hM hy hl rfl rfl (Nat.le_of_ble_eq_true hw) (xf_ble hR) hd (fun v u h => by obtain ⟨rfl, rfl⟩ := h; exact kk)
theorem xf_T5r (hX : xf_ok X l own cc nL fr lo wf D tys) (np : Nat) (hp : pc + 3 = np) {v1 v2 v3 v4 v5 : Value} (hM : xf_M l y cc' nL' ret' fr' lo' wf D tys [v1, v2, v3, v4, v5] σ rq) (hy : xf_sta y cc' nL' ret' 5) {host : String} (hl : Cond.methodLinkNest own idx y host ∈ xf_NL) (hw : Nat.ble ((rest.map fun v => v.category).sum) 8 = true) (hR : (Nat.ble (fr' + 1) fr && Nat.ble (8 + (nL' + 11) + lo') lo) = true) (hd : decode cc pc = .ok (.invokestatic idx, 3)) (kk : ∀ (v : Option Value) (u : xf_S), rq v u → xf_V X np L (v.toList ++ rest) u) : xf_V X pc L (v5 :: v4 :: v3 :: v2 :: v1 :: rest) σ := by
  exact xf_callSN hX np hp [v1, v2, v3, v4, v5] rest hM hy hl rfl rfl (Nat.le_of_ble_eq_true hw) (xf_ble hR) hd kk
theorem xf_V5i (hX : xf_ok X l own cc nL fr lo wf D tys) (np : Nat) (hp : pc + 3 = np) {v1 v2 v3 v4 v5 : Value} (hM : xf_F l y cc' nL' ret' fr' lo' wf D tys [.ref b, v1, v2, v3, v4, v5] σ (some (.int r)) σ') (hy : xf_vir y cc' nL' ret' 5) (hl : Cond.methodLink own idx y ∈ xf_GW) (hrc : xf_rcv wf σ b y.cls) (hw : Nat.ble ((rest.map fun v => v.category).sum) 8 = true) (hR : (Nat.ble (fr' + 1) fr && Nat.ble (8 + (nL' + 11) + lo') lo) = true) (hd : decode cc pc = .ok (.invokevirtual idx, 3)) (kk : xf_V X np L (.int r :: rest) σ') : xf_V X pc L (v5 :: v4 :: v3 :: v2 :: v1 :: .ref b :: rest) σ := by
  obtain ⟨q0, ci, fs, r0, e1, e2, e3⟩ := hrc
  exact xf_callV hX np hp [v1, v2, v3, v4, v5] rest hM hy hl q0 ci e1 e2 e3 rfl rfl (Nat.le_of_ble_eq_true hw) (xf_ble hR) hd (fun v u h => by obtain ⟨rfl, rfl⟩ := h; exact kk)
theorem xf_V5v (hX : xf_ok X l own cc nL fr lo wf D tys) (np : Nat) (hp : pc + 3 = np) {v1 v2 v3 v4 v5 : Value} (hM : xf_F l y cc' nL' ret' fr' lo' wf D tys [.ref b, v1, v2, v3, v4, v5] σ none σ') (hy : xf_vir y cc' nL' ret' 5) (hl : Cond.methodLink own idx y ∈ xf_GW) (hrc : xf_rcv wf σ b y.cls) (hw : Nat.ble ((rest.map fun v => v.category).sum) 8 = true) (hR : (Nat.ble (fr' + 1) fr && Nat.ble (8 + (nL' + 11) + lo') lo) = true) (hd : decode cc pc = .ok (.invokevirtual idx, 3)) (kk : xf_V X np L rest σ') : xf_V X pc L (v5 :: v4 :: v3 :: v2 :: v1 :: .ref b :: rest) σ := by
  obtain ⟨q0, ci, fs, r0, e1, e2, e3⟩ := hrc
  exact xf_callV hX np hp [v1, v2, v3, v4, v5] rest hM hy hl q0 ci e1 e2 e3 rfl rfl (Nat.le_of_ble_eq_true hw) (xf_ble hR) hd (fun v u h => by obtain ⟨rfl, rfl⟩ := h; exact kk)
theorem xf_V5r (hX : xf_ok X l own cc nL fr lo wf D tys) (np : Nat) (hp : pc + 3 = np) {v1 v2 v3 v4 v5 : Value} (hM : xf_M l y cc' nL' ret' fr' lo' wf D tys [.ref b, v1, v2, v3, v4, v5] σ rq) (hy : xf_vir y cc' nL' ret' 5) (hl : Cond.methodLink own idx y ∈ xf_GW) (hrc : xf_rcv wf σ b y.cls) (hw : Nat.ble ((rest.map fun v => v.category).sum) 8 = true) (hR : (Nat.ble (fr' + 1) fr && Nat.ble (8 + (nL' + 11) + lo') lo) = true) (hd : decode cc pc = .ok (.invokevirtual idx, 3)) (kk : ∀ (v : Option Value) (u : xf_S), rq v u → xf_V X np L (v.toList ++ rest) u) : xf_V X pc L (v5 :: v4 :: v3 :: v2 :: v1 :: .ref b :: rest) σ := by
  obtain ⟨q0, ci, fs, r0, e1, e2, e3⟩ := hrc
  exact xf_callV hX np hp [v1, v2, v3, v4, v5] rest hM hy hl q0 ci e1 e2 e3 rfl rfl (Nat.le_of_ble_eq_true hw) (xf_ble hR) hd kk
theorem xf_U5i (hX : xf_ok X l own cc nL fr lo wf D tys) (np : Nat) (hp : pc + 3 = np) {v1 v2 v3 v4 v5 : Value} (hM : xf_F l y cc' nL' ret' fr' lo' wf D tys [.ref b, v1, v2, v3, v4, v5] σ (some (.int r)) σ') (hy : xf_vir y cc' nL' ret' 5) {host : String} (hl : Cond.methodLinkNest own idx y host ∈ xf_NL) (hrc : xf_rcv wf σ b y.cls) (hw : Nat.ble ((rest.map fun v => v.category).sum) 8 = true) (hR : (Nat.ble (fr' + 1) fr && Nat.ble (8 + (nL' + 11) + lo') lo) = true) (hd : decode cc pc = .ok (.invokevirtual idx, 3)) (kk : xf_V X np L (.int r :: rest) σ') : xf_V X pc L (v5 :: v4 :: v3 :: v2 :: v1 :: .ref b :: rest) σ := by
  obtain ⟨q0, ci, fs, r0, e1, e2, e3⟩ := hrc
  exact xf_callVN hX np hp [v1, v2, v3, v4, v5] rest hM hy hl q0 ci e1 e2 e3 rfl rfl (Nat.le_of_ble_eq_true hw) (xf_ble hR) hd (fun v u h => by obtain ⟨rfl, rfl⟩ := h; exact kk)
theorem xf_U5v (hX : xf_ok X l own cc nL fr lo wf D tys) (np : Nat) (hp : pc + 3 = np) {v1 v2 v3 v4 v5 : Value} (hM : xf_F l y cc' nL' ret' fr' lo' wf D tys [.ref b, v1, v2, v3, v4, v5] σ none σ') (hy : xf_vir y cc' nL' ret' 5) {host : String} (hl : Cond.methodLinkNest own idx y host ∈ xf_NL) (hrc : xf_rcv wf σ b y.cls) (hw : Nat.ble ((rest.map fun v => v.category).sum) 8 = true) (hR : (Nat.ble (fr' + 1) fr && Nat.ble (8 + (nL' + 11) + lo') lo) = true) (hd : decode cc pc = .ok (.invokevirtual idx, 3)) (kk : xf_V X np L rest σ') : xf_V X pc L (v5 :: v4 :: v3 :: v2 :: v1 :: .ref b :: rest) σ := by
  obtain ⟨q0, ci, fs, r0, e1, e2, e3⟩ := hrc
  exact xf_callVN hX np hp [v1, v2, v3, v4, v5] rest hM hy hl q0 ci e1 e2 e3 rfl rfl (Nat.le_of_ble_eq_true hw) (xf_ble hR) hd (fun v u h => by obtain ⟨rfl, rfl⟩ := h; exact kk)
theorem xf_U5r (hX : xf_ok X l own cc nL fr lo wf D tys) (np : Nat) (hp : pc + 3 = np) {v1 v2 v3 v4 v5 : Value} (hM : xf_M l y cc' nL' ret' fr' lo' wf D tys [.ref b, v1, v2, v3, v4, v5] σ rq) (hy : xf_vir y cc' nL' ret' 5) {host : String} (hl : Cond.methodLinkNest own idx y host ∈ xf_NL) (hrc : xf_rcv wf σ b y.cls) (hw : Nat.ble ((rest.map fun v => v.category).sum) 8 = true) (hR : (Nat.ble (fr' + 1) fr && Nat.ble (8 + (nL' + 11) + lo') lo) = true) (hd : decode cc pc = .ok (.invokevirtual idx, 3)) (kk : ∀ (v : Option Value) (u : xf_S), rq v u → xf_V X np L (v.toList ++ rest) u) : xf_V X pc L (v5 :: v4 :: v3 :: v2 :: v1 :: .ref b :: rest) σ := by
  obtain ⟨q0, ci, fs, r0, e1, e2, e3⟩ := hrc
  exact xf_callVN hX np hp [v1, v2, v3, v4, v5] rest hM hy hl q0 ci e1 e2 e3 rfl rfl (Nat.le_of_ble_eq_true hw) (xf_ble hR) hd kk
theorem xf_S6i (hX : xf_ok X l own cc nL fr lo wf D tys) (np : Nat) (hp : pc + 3 = np) {v1 v2 v3 v4 v5 v6 : Value} (hM : xf_F l y cc' nL' ret' fr' lo' wf D tys [v1, v2, v3, v4, v5, v6] σ (some (.int r)) σ') (hy : xf_sta y cc' nL' ret' 6) (hl : Cond.methodLink own idx y ∈ xf_GW) (hw : Nat.ble ((rest.map fun v => v.category).sum) 8 = true) (hR : (Nat.ble (fr' + 1) fr && Nat.ble (8 + (nL' + 11) + lo') lo) = true) (hd : decode cc pc = .ok (.invokestatic idx, 3)) (kk : xf_V X np L (.int r :: rest) σ') : xf_V X pc L (v6 :: v5 :: v4 :: v3 :: v2 :: v1 :: rest) σ := by
  exact xf_callS hX np hp [v1, v2, v3, v4, v5, v6] rest hM hy hl rfl rfl (Nat.le_of_ble_eq_true hw) (xf_ble hR) hd (fun v u h => by obtain ⟨rfl, rfl⟩ := h; exact kk)
theorem xf_S6v (hX : xf_ok X l own cc nL fr lo wf D tys) (np : Nat) (hp : pc + 3 = np) {v1 v2 v3 v4 v5 v6 : Value} (hM : xf_F l y cc' nL' ret' fr' lo' wf D tys [v1, v2, v3, v4, v5, v6] σ none σ') (hy : xf_sta y cc' nL' ret' 6) (hl : Cond.methodLink own idx y ∈ xf_GW) (hw : Nat.ble ((rest.map fun v => v.category).sum) 8 = true) (hR : (Nat.ble (fr' + 1) fr && Nat.ble (8 + (nL' + 11) + lo') lo) = true) (hd : decode cc pc = .ok (.invokestatic idx, 3)) (kk : xf_V X np L rest σ') : xf_V X pc L (v6 :: v5 :: v4 :: v3 :: v2 :: v1 :: rest) σ := by
  exact xf_callS hX np hp [v1, v2, v3, v4, v5, v6] rest hM hy hl rfl rfl (Nat.le_of_ble_eq_true hw) (xf_ble hR) hd (fun v u h => by obtain ⟨rfl, rfl⟩ := h; exact kk)
theorem xf_S6r (hX : xf_ok X l own cc nL fr lo wf D tys) (np : Nat) (hp : pc + 3 = np) {v1 v2 v3 v4 v5 v6 : Value} (hM : xf_M l y cc' nL' ret' fr' lo' wf D tys [v1, v2, v3, v4, v5, v6] σ rq) (hy : xf_sta y cc' nL' ret' 6) (hl : Cond.methodLink own idx y ∈ xf_GW) (hw : Nat.ble ((rest.map fun v => v.category).sum) 8 = true) (hR : (Nat.ble (fr' + 1) fr && Nat.ble (8 + (nL' + 11) + lo') lo) = true) (hd : decode cc pc = .ok (.invokestatic idx, 3)) (kk : ∀ (v : Option Value) (u : xf_S), rq v u → xf_V X np L (v.toList ++ rest) u) : xf_V X pc L (v6 :: v5 :: v4 :: v3 :: v2 :: v1 :: rest) σ := by
  exact xf_callS hX np hp [v1, v2, v3, v4, v5, v6] rest hM hy hl rfl rfl (Nat.le_of_ble_eq_true hw) (xf_ble hR) hd kk
theorem xf_T6i (hX : xf_ok X l own cc nL fr lo wf D tys) (np : Nat) (hp : pc + 3 = np) {v1 v2 v3 v4 v5 v6 : Value} (hM : xf_F l y cc' nL' ret' fr' lo' wf D tys [v1, v2, v3, v4, v5, v6] σ (some (.int r)) σ') (hy : xf_sta y cc' nL' ret' 6) {host : String} (hl : Cond.methodLinkNest own idx y host ∈ xf_NL) (hw : Nat.ble ((rest.map fun v => v.category).sum) 8 = true) (hR : (Nat.ble (fr' + 1) fr && Nat.ble (8 + (nL' + 11) + lo') lo) = true) (hd : decode cc pc = .ok (.invokestatic idx, 3)) (kk : xf_V X np L (.int r :: rest) σ') : xf_V X pc L (v6 :: v5 :: v4 :: v3 :: v2 :: v1 :: rest) σ := by
  exact xf_callSN hX np hp [v1, v2, v3, v4, v5, v6] rest hM hy hl rfl rfl (Nat.le_of_ble_eq_true hw) (xf_ble hR) hd (fun v u h => by obtain ⟨rfl, rfl⟩ := h; exact kk)
theorem xf_T6v (hX : xf_ok X l own cc nL fr lo wf D tys) (np : Nat) (hp : pc + 3 = np) {v1 v2 v3 v4 v5 v6 : Value} (hM : xf_F l y cc' nL' ret' fr' lo' wf D tys [v1, v2, v3, v4, v5, v6] σ none σ') (hy : xf_sta y cc' nL' ret' 6) {host : String} (hl : Cond.methodLinkNest own idx y host ∈ xf_NL) (hw : Nat.ble ((rest.map fun v => v.category).sum) 8 = true) (hR : (Nat.ble (fr' + 1) fr && Nat.ble (8 + (nL' + 11) + lo') lo) = true) (hd : decode cc pc = .ok (.invokestatic idx, 3)) (kk : xf_V X np L rest σ') : xf_V X pc L (v6 :: v5 :: v4 :: v3 :: v2 :: v1 :: rest) σ := by
  exact xf_callSN hX np hp [v1, v2, v3, v4, v5, v6] rest hM hy hl rfl rfl (Nat.le_of_ble_eq_true hw) (xf_ble hR) hd (fun v u h => by obtain ⟨rfl, rfl⟩ := h; exact kk)
theorem xf_T6r (hX : xf_ok X l own cc nL fr lo wf D tys) (np : Nat) (hp : pc + 3 = np) {v1 v2 v3 v4 v5 v6 : Value} (hM : xf_M l y cc' nL' ret' fr' lo' wf D tys [v1, v2, v3, v4, v5, v6] σ rq) (hy : xf_sta y cc' nL' ret' 6) {host : String} (hl : Cond.methodLinkNest own idx y host ∈ xf_NL) (hw : Nat.ble ((rest.map fun v => v.category).sum) 8 = true) (hR : (Nat.ble (fr' + 1) fr && Nat.ble (8 + (nL' + 11) + lo') lo) = true) (hd : decode cc pc = .ok (.invokestatic idx, 3)) (kk : ∀ (v : Option Value) (u : xf_S), rq v u → xf_V X np L (v.toList ++ rest) u) : xf_V X pc L (v6 :: v5 :: v4 :: v3 :: v2 :: v1 :: rest) σ := by
  exact xf_callSN hX np hp [v1, v2, v3, v4, v5, v6] rest hM hy hl rfl rfl (Nat.le_of_ble_eq_true hw) (xf_ble hR) hd kk
end XFW
end
section
theorem xf_mt {w : Cond} (K : Nat) (h : tables_1[K]? = some w) (g : goodWord w = true) : w ∈ xf_GW := List.mem_filter.mpr ⟨List.mem_append_right _ (List.mem_of_getElem? h), g⟩
theorem xf_ms {w : Cond} (K : Nat) (h : (k2_sels lw_privs)[K]? = some w) (g : goodWord w = true) : w ∈ xf_GW := List.mem_filter.mpr ⟨List.mem_append_left _ (List.mem_of_getElem? h), g⟩
theorem xf_mn {w : Cond} (K : Nat) (h : tables_1[K]? = some w) (g : xf_nest w = true) : w ∈ xf_NL := List.mem_filter.mpr ⟨List.mem_append_right _ (List.mem_of_getElem? h), g⟩
theorem xin_SC : ∀ w ∈ u_ws xnR_SC xnT_SC 4, w ∈ xf_GW := by
  intro w hw
  obtain ⟨k, hk, rfl⟩ := List.mem_map.mp hw
  have hk := List.mem_range.mp hk
  have h9 : k = 0 ∨ k = 1 ∨ k = 2 ∨ k = 3 := by omega
  rcases h9 with rfl | rfl | rfl | rfl
  · exact xf_mt 258 (by decide +kernel) (by decide +kernel)
  · exact xf_mt 260 (by decide +kernel) (by decide +kernel)
  · exact xf_mt 262 (by decide +kernel) (by decide +kernel)
  · exact xf_mt 264 (by decide +kernel) (by decide +kernel)
theorem xin_TA : ∀ w ∈ u_ws xnR_TA xnT_TA 6, w ∈ xf_GW := by
  intro w hw
  obtain ⟨k, hk, rfl⟩ := List.mem_map.mp hw
  have hk := List.mem_range.mp hk
  have h9 : k = 0 ∨ k = 1 ∨ k = 2 ∨ k = 3 ∨ k = 4 ∨ k = 5 := by omega
  rcases h9 with rfl | rfl | rfl | rfl | rfl | rfl
  · exact xf_mt 35 (by decide +kernel) (by decide +kernel)
  · exact xf_mt 37 (by decide +kernel) (by decide +kernel)
  · exact xf_mt 39 (by decide +kernel) (by decide +kernel)
  · exact xf_mt 41 (by decide +kernel) (by decide +kernel)
  · exact xf_mt 43 (by decide +kernel) (by decide +kernel)
  · exact xf_mt 45 (by decide +kernel) (by decide +kernel)
theorem xin_ST : ∀ w ∈ u_ws xnR_ST xnT_ST 14, w ∈ xf_GW := by
  intro w hw
  obtain ⟨k, hk, rfl⟩ := List.mem_map.mp hw
  have hk := List.mem_range.mp hk
  have h9 : k = 0 ∨ k = 1 ∨ k = 2 ∨ k = 3 ∨ k = 4 ∨ k = 5 ∨ k = 6 ∨ k = 7 ∨ k = 8 ∨ k = 9 ∨ k = 10 ∨ k = 11 ∨ k = 12 ∨ k = 13 := by omega
  rcases h9 with rfl | rfl | rfl | rfl | rfl | rfl | rfl | rfl | rfl | rfl | rfl | rfl | rfl | rfl
  · exact xf_mt 101 (by decide +kernel) (by decide +kernel)
  · exact xf_mt 103 (by decide +kernel) (by decide +kernel)
  · exact xf_mt 105 (by decide +kernel) (by decide +kernel)
  · exact xf_mt 107 (by decide +kernel) (by decide +kernel)
  · exact xf_mt 109 (by decide +kernel) (by decide +kernel)
  · exact xf_mt 111 (by decide +kernel) (by decide +kernel)
  · exact xf_mt 113 (by decide +kernel) (by decide +kernel)
  · exact xf_mt 115 (by decide +kernel) (by decide +kernel)
  · exact xf_mt 117 (by decide +kernel) (by decide +kernel)
  · exact xf_mt 119 (by decide +kernel) (by decide +kernel)
  · exact xf_mt 121 (by decide +kernel) (by decide +kernel)
  · exact xf_mt 123 (by decide +kernel) (by decide +kernel)
  · exact xf_mt 125 (by decide +kernel) (by decide +kernel)
  · exact xf_mt 127 (by decide +kernel) (by decide +kernel)
theorem xin_WR : ∀ w ∈ u_ws xnR_WR xnT_WR 13, w ∈ xf_GW := by
  intro w hw
  obtain ⟨k, hk, rfl⟩ := List.mem_map.mp hw
  have hk := List.mem_range.mp hk
  have h9 : k = 0 ∨ k = 1 ∨ k = 2 ∨ k = 3 ∨ k = 4 ∨ k = 5 ∨ k = 6 ∨ k = 7 ∨ k = 8 ∨ k = 9 ∨ k = 10 ∨ k = 11 ∨ k = 12 := by omega
  rcases h9 with rfl | rfl | rfl | rfl | rfl | rfl | rfl | rfl | rfl | rfl | rfl | rfl | rfl
  · exact xf_mt 183 (by decide +kernel) (by decide +kernel)
  · exact xf_mt 185 (by decide +kernel) (by decide +kernel)
  · exact xf_mt 187 (by decide +kernel) (by decide +kernel)
  · exact xf_mt 189 (by decide +kernel) (by decide +kernel)
  · exact xf_mt 191 (by decide +kernel) (by decide +kernel)
  · exact xf_mt 193 (by decide +kernel) (by decide +kernel)
  · exact xf_mt 195 (by decide +kernel) (by decide +kernel)
  · exact xf_mt 197 (by decide +kernel) (by decide +kernel)
  · exact xf_mt 199 (by decide +kernel) (by decide +kernel)
  · exact xf_mt 201 (by decide +kernel) (by decide +kernel)
  · exact xf_mt 203 (by decide +kernel) (by decide +kernel)
  · exact xf_mt 205 (by decide +kernel) (by decide +kernel)
  · exact xf_mt 207 (by decide +kernel) (by decide +kernel)
theorem xin_PA : ∀ w ∈ u_ws xnR_PA xnT_PA 7, w ∈ xf_GW := by
  intro w hw
  obtain ⟨k, hk, rfl⟩ := List.mem_map.mp hw
  have hk := List.mem_range.mp hk
  have h9 : k = 0 ∨ k = 1 ∨ k = 2 ∨ k = 3 ∨ k = 4 ∨ k = 5 ∨ k = 6 := by omega
  rcases h9 with rfl | rfl | rfl | rfl | rfl | rfl | rfl
  · exact xf_mt 153 (by decide +kernel) (by decide +kernel)
  · exact xf_mt 155 (by decide +kernel) (by decide +kernel)
  · exact xf_mt 157 (by decide +kernel) (by decide +kernel)
  · exact xf_mt 159 (by decide +kernel) (by decide +kernel)
  · exact xf_mt 161 (by decide +kernel) (by decide +kernel)
  · exact xf_mt 163 (by decide +kernel) (by decide +kernel)
  · exact xf_mt 165 (by decide +kernel) (by decide +kernel)
theorem xin_RD : ∀ w ∈ u_ws xnR_RD xnT_RD 11, w ∈ xf_GW := by
  intro w hw
  obtain ⟨k, hk, rfl⟩ := List.mem_map.mp hw
  have hk := List.mem_range.mp hk
  have h9 : k = 0 ∨ k = 1 ∨ k = 2 ∨ k = 3 ∨ k = 4 ∨ k = 5 ∨ k = 6 ∨ k = 7 ∨ k = 8 ∨ k = 9 ∨ k = 10 := by omega
  rcases h9 with rfl | rfl | rfl | rfl | rfl | rfl | rfl | rfl | rfl | rfl | rfl
  · exact xf_mt 231 (by decide +kernel) (by decide +kernel)
  · exact xf_mt 233 (by decide +kernel) (by decide +kernel)
  · exact xf_mt 235 (by decide +kernel) (by decide +kernel)
  · exact xf_mt 237 (by decide +kernel) (by decide +kernel)
  · exact xf_mt 239 (by decide +kernel) (by decide +kernel)
  · exact xf_mt 241 (by decide +kernel) (by decide +kernel)
  · exact xf_mt 243 (by decide +kernel) (by decide +kernel)
  · exact xf_mt 245 (by decide +kernel) (by decide +kernel)
  · exact xf_mt 247 (by decide +kernel) (by decide +kernel)
  · exact xf_mt 249 (by decide +kernel) (by decide +kernel)
  · exact xf_mt 251 (by decide +kernel) (by decide +kernel)
theorem xin_MO : ∀ w ∈ u_ws xnR_MO xnT_MO 38, w ∈ xf_GW := by
  intro w hw
  obtain ⟨k, hk, rfl⟩ := List.mem_map.mp hw
  have hk := List.mem_range.mp hk
  have h9 : k = 0 ∨ k = 1 ∨ k = 2 ∨ k = 3 ∨ k = 4 ∨ k = 5 ∨ k = 6 ∨ k = 7 ∨ k = 8 ∨ k = 9 ∨ k = 10 ∨ k = 11 ∨ k = 12 ∨ k = 13 ∨ k = 14 ∨ k = 15 ∨ k = 16 ∨ k = 17 ∨ k = 18 ∨ k = 19 ∨ k = 20 ∨ k = 21 ∨ k = 22 ∨ k = 23 ∨ k = 24 ∨ k = 25 ∨ k = 26 ∨ k = 27 ∨ k = 28 ∨ k = 29 ∨ k = 30 ∨ k = 31 ∨ k = 32 ∨ k = 33 ∨ k = 34 ∨ k = 35 ∨ k = 36 ∨ k = 37 := by omega
  rcases h9 with rfl | rfl | rfl | rfl | rfl | rfl | rfl | rfl | rfl | rfl | rfl | rfl | rfl | rfl | rfl | rfl | rfl | rfl | rfl | rfl | rfl | rfl | rfl | rfl | rfl | rfl | rfl | rfl | rfl | rfl | rfl | rfl | rfl | rfl | rfl | rfl | rfl | rfl
  · exact xf_mt 581 (by decide +kernel) (by decide +kernel)
  · exact xf_mt 583 (by decide +kernel) (by decide +kernel)
  · exact xf_mt 585 (by decide +kernel) (by decide +kernel)
  · exact xf_mt 587 (by decide +kernel) (by decide +kernel)
  · exact xf_mt 589 (by decide +kernel) (by decide +kernel)
  · exact xf_mt 591 (by decide +kernel) (by decide +kernel)
  · exact xf_mt 593 (by decide +kernel) (by decide +kernel)
  · exact xf_mt 595 (by decide +kernel) (by decide +kernel)
  · exact xf_mt 597 (by decide +kernel) (by decide +kernel)
  · exact xf_mt 599 (by decide +kernel) (by decide +kernel)
  · exact xf_mt 601 (by decide +kernel) (by decide +kernel)
  · exact xf_mt 603 (by decide +kernel) (by decide +kernel)
  · exact xf_mt 605 (by decide +kernel) (by decide +kernel)
  · exact xf_mt 607 (by decide +kernel) (by decide +kernel)
  · exact xf_mt 609 (by decide +kernel) (by decide +kernel)
  · exact xf_mt 611 (by decide +kernel) (by decide +kernel)
  · exact xf_mt 613 (by decide +kernel) (by decide +kernel)
  · exact xf_mt 615 (by decide +kernel) (by decide +kernel)
  · exact xf_mt 617 (by decide +kernel) (by decide +kernel)
  · exact xf_mt 619 (by decide +kernel) (by decide +kernel)
  · exact xf_mt 621 (by decide +kernel) (by decide +kernel)
  · exact xf_mt 623 (by decide +kernel) (by decide +kernel)
  · exact xf_mt 625 (by decide +kernel) (by decide +kernel)
  · exact xf_mt 627 (by decide +kernel) (by decide +kernel)
  · exact xf_mt 629 (by decide +kernel) (by decide +kernel)
  · exact xf_mt 631 (by decide +kernel) (by decide +kernel)
  · exact xf_mt 633 (by decide +kernel) (by decide +kernel)
  · exact xf_mt 635 (by decide +kernel) (by decide +kernel)
  · exact xf_mt 637 (by decide +kernel) (by decide +kernel)
  · exact xf_mt 639 (by decide +kernel) (by decide +kernel)
  · exact xf_mt 641 (by decide +kernel) (by decide +kernel)
  · exact xf_mt 643 (by decide +kernel) (by decide +kernel)
  · exact xf_mt 645 (by decide +kernel) (by decide +kernel)
  · exact xf_mt 647 (by decide +kernel) (by decide +kernel)
  · exact xf_mt 649 (by decide +kernel) (by decide +kernel)
  · exact xf_mt 651 (by decide +kernel) (by decide +kernel)
  · exact xf_mt 653 (by decide +kernel) (by decide +kernel)
  · exact xf_mt 655 (by decide +kernel) (by decide +kernel)
theorem xk_SC_9 : Cond.methodLinkNest xnR_SC 9 xny_TA_init "SteppedCache" ∈ xf_NL := xf_mn 19 (by decide +kernel) (by decide +kernel)
theorem xk_SC_10 : Cond.fieldLink xnR_SC 10 (xnT_SC 0).1 (xnT_SC 0).2.1 (xnT_SC 0).2.2.1 ∈ xf_GW := xf_mt 254 (by decide +kernel) (by decide +kernel)
theorem xk_SC_18 : Cond.methodLink xnR_SC 18 xny_SC_isWithin ∈ xf_GW := xf_mt 50 (by decide +kernel) (by decide +kernel)
theorem xk_SC_22 : Cond.methodLink xnR_SC 22 xny_ST_init ∈ xf_GW := xf_mt 53 (by decide +kernel) (by decide +kernel)
theorem xk_SC_25 : Cond.fieldLink xnR_SC 25 (xnT_SC 1).1 (xnT_SC 1).2.1 (xnT_SC 1).2.2.1 ∈ xf_GW := xf_mt 255 (by decide +kernel) (by decide +kernel)
theorem xk_SC_31 : Cond.methodLink xnR_SC 31 xny_WR_init ∈ xf_GW := xf_mt 134 (by decide +kernel) (by decide +kernel)
theorem xk_SC_34 : Cond.fieldLink xnR_SC 34 (xnT_SC 2).1 (xnT_SC 2).2.1 (xnT_SC 2).2.2.1 ∈ xf_GW := xf_mt 256 (by decide +kernel) (by decide +kernel)
theorem xk_SC_40 : Cond.fieldLink xnR_SC 40 (xnT_SC 3).1 (xnT_SC 3).2.1 (xnT_SC 3).2.2.1 ∈ xf_GW := xf_mt 257 (by decide +kernel) (by decide +kernel)
theorem xk_SC_44 : Cond.methodLink xnR_SC 44 xny_RD_init ∈ xf_GW := xf_mt 213 (by decide +kernel) (by decide +kernel)
theorem xk_SC_47 : Cond.methodLink xnR_SC 47 xny_WR_isUnderWay ∈ xf_GW := xf_mt 271 (by decide +kernel) (by decide +kernel)
theorem xk_SC_51 : Cond.methodLink xnR_SC 51 xny_WR_begin ∈ xf_GW := xf_mt 275 (by decide +kernel) (by decide +kernel)
theorem xk_SC_55 : Cond.methodLink xnR_SC 55 xny_WR_goOn ∈ xf_GW := xf_mt 283 (by decide +kernel) (by decide +kernel)
theorem xk_SC_58 : Cond.fieldLink xnR_SC 58 (xnT_WR 3).1 (xnT_WR 3).2.1 (xnT_WR 3).2.2.1 ∈ xf_GW := xf_mt 172 (by decide +kernel) (by decide +kernel)
theorem xk_SC_62 : Cond.methodLink xnR_SC 62 xny_SC_isReader ∈ xf_GW := xf_mt 422 (by decide +kernel) (by decide +kernel)
theorem xk_SC_66 : Cond.methodLink xnR_SC 66 xny_RD_isUnderWay ∈ xf_GW := xf_mt 425 (by decide +kernel) (by decide +kernel)
theorem xk_SC_67 : Cond.methodLink xnR_SC 67 xny_RD_begin ∈ xf_GW := xf_mt 430 (by decide +kernel) (by decide +kernel)
theorem xk_SC_70 : Cond.methodLink xnR_SC 70 xny_RD_goOn ∈ xf_GW := xf_mt 438 (by decide +kernel) (by decide +kernel)
theorem xk_SC_71 : Cond.fieldLink xnR_SC 71 (xnT_RD 3).1 (xnT_RD 3).2.1 (xnT_RD 3).2.2.1 ∈ xf_GW := xf_mt 221 (by decide +kernel) (by decide +kernel)
theorem xk_SC_74 : Cond.methodLink xnR_SC 74 xny_SC_isHit ∈ xf_GW := xf_mt 484 (by decide +kernel) (by decide +kernel)
theorem xk_SC_77 : Cond.fieldLink xnR_SC 77 (xnT_RD 4).1 (xnT_RD 4).2.1 (xnT_RD 4).2.2.1 ∈ xf_GW := xf_mt 223 (by decide +kernel) (by decide +kernel)
theorem xk_SC_80 : Cond.fieldLink xnR_SC 80 (xnT_RD 5).1 (xnT_RD 5).2.1 (xnT_RD 5).2.2.1 ∈ xf_GW := xf_mt 225 (by decide +kernel) (by decide +kernel)
theorem xk_SC_83 : Cond.fieldLink xnR_SC 83 (xnT_ST 12).1 (xnT_ST 12).2.1 (xnT_ST 12).2.2.1 ∈ xf_GW := xf_mt 98 (by decide +kernel) (by decide +kernel)
theorem xk_SC_86 : Cond.methodLink xnR_SC 86 xny_ST_find ∈ xf_GW := xf_mt 500 (by decide +kernel) (by decide +kernel)
theorem xk_SC_90 : Cond.fieldLink xnR_SC 90 (xnT_ST 3).1 (xnT_ST 3).2.1 (xnT_ST 3).2.2.1 ∈ xf_GW := xf_mt 70 (by decide +kernel) (by decide +kernel)
theorem xk_SC_94 : Cond.methodLink xnR_SC 94 xny_SC_isUsedItem ∈ xf_GW := xf_mt 512 (by decide +kernel) (by decide +kernel)
theorem xk_SC_97 : Cond.fieldLink xnR_SC 97 (xnT_ST 4).1 (xnT_ST 4).2.1 (xnT_ST 4).2.2.1 ∈ xf_GW := xf_mt 73 (by decide +kernel) (by decide +kernel)
theorem xk_SC_100 : Cond.fieldLink xnR_SC 100 (xnT_ST 5).1 (xnT_ST 5).2.1 (xnT_ST 5).2.2.1 ∈ xf_GW := xf_mt 78 (by decide +kernel) (by decide +kernel)
theorem xk_SC_103 : Cond.fieldLink xnR_SC 103 (xnT_ST 6).1 (xnT_ST 6).2.1 (xnT_ST 6).2.2.1 ∈ xf_GW := xf_mt 82 (by decide +kernel) (by decide +kernel)
theorem xk_SC_106 : Cond.fieldLink xnR_SC 106 (xnT_ST 7).1 (xnT_ST 7).2.1 (xnT_ST 7).2.2.1 ∈ xf_GW := xf_mt 86 (by decide +kernel) (by decide +kernel)
theorem xk_SC_109 : Cond.fieldLink xnR_SC 109 (xnT_ST 8).1 (xnT_ST 8).2.1 (xnT_ST 8).2.2.1 ∈ xf_GW := xf_mt 90 (by decide +kernel) (by decide +kernel)
theorem xk_SC_113 : Cond.fieldLink xnR_SC 113 (xnT_ST 10).1 (xnT_ST 10).2.1 (xnT_ST 10).2.2.1 ∈ xf_GW := xf_mt 94 (by decide +kernel) (by decide +kernel)
theorem xk_SC_116 : Cond.methodLink xnR_SC 116 xny_SC_firstBucket ∈ xf_GW := xf_mt 316 (by decide +kernel) (by decide +kernel)
theorem xk_SC_119 : Cond.methodLink xnR_SC 119 xny_SC_secondBucket ∈ xf_GW := xf_mt 528 (by decide +kernel) (by decide +kernel)
theorem xk_SC_122 : Cond.methodLink xnR_SC 122 xny_SC_tagOf ∈ xf_GW := xf_mt 320 (by decide +kernel) (by decide +kernel)
theorem xk_SC_125 : Cond.methodLink xnR_SC 125 xny_SC_stripeOf ∈ xf_GW := xf_mt 529 (by decide +kernel) (by decide +kernel)
theorem xk_SC_128 : Cond.fieldLink xnR_SC 128 (xnT_ST 11).1 (xnT_ST 11).2.1 (xnT_ST 11).2.2.1 ∈ xf_GW := xf_mt 96 (by decide +kernel) (by decide +kernel)
theorem xk_SC_131 : Cond.fieldLink xnR_SC 131 (xnT_TA 0).1 (xnT_TA 0).2.1 (xnT_TA 0).2.2.1 ∈ xf_GW := xf_mt 24 (by decide +kernel) (by decide +kernel)
theorem xk_SC_134 : Cond.fieldLink xnR_SC 134 (xnT_TA 1).1 (xnT_TA 1).2.1 (xnT_TA 1).2.2.1 ∈ xf_GW := xf_mt 26 (by decide +kernel) (by decide +kernel)
theorem xk_SC_137 : Cond.fieldLink xnR_SC 137 (xnT_TA 2).1 (xnT_TA 2).2.1 (xnT_TA 2).2.2.1 ∈ xf_GW := xf_mt 28 (by decide +kernel) (by decide +kernel)
theorem xk_SC_140 : Cond.fieldLink xnR_SC 140 (xnT_TA 3).1 (xnT_TA 3).2.1 (xnT_TA 3).2.2.1 ∈ xf_GW := xf_mt 30 (by decide +kernel) (by decide +kernel)
theorem xk_SC_143 : Cond.fieldLink xnR_SC 143 (xnT_TA 4).1 (xnT_TA 4).2.1 (xnT_TA 4).2.2.1 ∈ xf_GW := xf_mt 32 (by decide +kernel) (by decide +kernel)
theorem xk_SC_146 : Cond.fieldLink xnR_SC 146 (xnT_TA 5).1 (xnT_TA 5).2.1 (xnT_TA 5).2.2.1 ∈ xf_GW := xf_mt 34 (by decide +kernel) (by decide +kernel)
theorem xk_SC_149 : Cond.fieldLink xnR_SC 149 (xnT_WR 4).1 (xnT_WR 4).2.1 (xnT_WR 4).2.2.1 ∈ xf_GW := xf_mt 174 (by decide +kernel) (by decide +kernel)
theorem xk_SC_152 : Cond.fieldLink xnR_SC 152 (xnT_ST 13).1 (xnT_ST 13).2.1 (xnT_ST 13).2.2.1 ∈ xf_GW := xf_mt 100 (by decide +kernel) (by decide +kernel)
theorem xk_SC_155 : Cond.fieldLink xnR_SC 155 (xnT_ST 1).1 (xnT_ST 1).2.1 (xnT_ST 1).2.2.1 ∈ xf_GW := xf_mt 63 (by decide +kernel) (by decide +kernel)
theorem xk_SC_158 : Cond.fieldLink xnR_SC 158 (xnT_ST 9).1 (xnT_ST 9).2.1 (xnT_ST 9).2.2.1 ∈ xf_GW := xf_mt 92 (by decide +kernel) (by decide +kernel)
theorem xkc_SC_161 : Cond.constant xnR_SC 161 (1368264107) ∈ xf_GW := xf_mt 301 (by decide +kernel) (by decide +kernel)
theorem xk_SC_162 : Cond.methodLink xnR_SC 162 xny_SC_mix ∈ xf_GW := xf_mt 298 (by decide +kernel) (by decide +kernel)
theorem xk_SC_165 : Cond.methodLink xnR_SC 165 xny_SC_otherBucket ∈ xf_GW := xf_mt 317 (by decide +kernel) (by decide +kernel)
theorem xk_PA_9 : Cond.fieldLink xnR_PA 9 (xnT_PA 0).1 (xnT_PA 0).2.1 (xnT_PA 0).2.2.1 ∈ xf_GW := xf_mt 144 (by decide +kernel) (by decide +kernel)
theorem xk_PA_15 : Cond.fieldLink xnR_PA 15 (xnT_PA 1).1 (xnT_PA 1).2.1 (xnT_PA 1).2.2.1 ∈ xf_GW := xf_mt 145 (by decide +kernel) (by decide +kernel)
theorem xk_PA_19 : Cond.fieldLink xnR_PA 19 (xnT_ST 3).1 (xnT_ST 3).2.1 (xnT_ST 3).2.2.1 ∈ xf_GW := xf_mt 66 (by decide +kernel) (by decide +kernel)
theorem xk_PA_24 : Cond.fieldLink xnR_PA 24 (xnT_PA 3).1 (xnT_PA 3).2.1 (xnT_PA 3).2.2.1 ∈ xf_GW := xf_mt 149 (by decide +kernel) (by decide +kernel)
theorem xk_PA_27 : Cond.fieldLink xnR_PA 27 (xnT_PA 4).1 (xnT_PA 4).2.1 (xnT_PA 4).2.2.1 ∈ xf_GW := xf_mt 150 (by decide +kernel) (by decide +kernel)
theorem xk_PA_30 : Cond.fieldLink xnR_PA 30 (xnT_PA 5).1 (xnT_PA 5).2.1 (xnT_PA 5).2.2.1 ∈ xf_GW := xf_mt 151 (by decide +kernel) (by decide +kernel)
theorem xk_PA_33 : Cond.fieldLink xnR_PA 33 (xnT_PA 6).1 (xnT_PA 6).2.1 (xnT_PA 6).2.2.1 ∈ xf_GW := xf_mt 152 (by decide +kernel) (by decide +kernel)
theorem xk_PA_37 : Cond.methodLink xnR_PA 37 xny_AR_fill ∈ xf_GW := xf_mt 377 (by decide +kernel) (by decide +kernel)
theorem xk_PA_43 : Cond.methodLinkNest xnR_PA 43 xny_SC_firstBucket "SteppedCache" ∈ xf_NL := xf_mn 378 (by decide +kernel) (by decide +kernel)
theorem xk_PA_47 : Cond.methodLink xnR_PA 47 xny_PA_enter ∈ xf_GW := xf_mt 379 (by decide +kernel) (by decide +kernel)
theorem xk_PA_51 : Cond.methodLinkNest xnR_PA 51 xny_SC_secondBucket "SteppedCache" ∈ xf_NL := xf_mn 383 (by decide +kernel) (by decide +kernel)
theorem xk_PA_54 : Cond.methodLink xnR_PA 54 xny_PA_keep ∈ xf_GW := xf_mt 384 (by decide +kernel) (by decide +kernel)
theorem xk_PA_58 : Cond.fieldLink xnR_PA 58 (xnT_ST 2).1 (xnT_ST 2).2.1 (xnT_ST 2).2.2.1 ∈ xf_GW := xf_mt 65 (by decide +kernel) (by decide +kernel)
theorem xk_PA_61 : Cond.fieldLink xnR_PA 61 (xnT_ST 4).1 (xnT_ST 4).2.1 (xnT_ST 4).2.2.1 ∈ xf_GW := xf_mt 72 (by decide +kernel) (by decide +kernel)
theorem xk_PA_64 : Cond.methodLinkNest xnR_PA 64 xny_SC_otherBucket "SteppedCache" ∈ xf_NL := xf_mn 388 (by decide +kernel) (by decide +kernel)
theorem xk_PA_68 : Cond.fieldLink xnR_PA 68 (xnT_PA 2).1 (xnT_PA 2).2.1 (xnT_PA 2).2.2.1 ∈ xf_GW := xf_mt 147 (by decide +kernel) (by decide +kernel)
theorem xk_RD_9 : Cond.fieldLink xnR_RD 9 (xnT_RD 0).1 (xnT_RD 0).2.1 (xnT_RD 0).2.2.1 ∈ xf_GW := xf_mt 217 (by decide +kernel) (by decide +kernel)
theorem xk_RD_15 : Cond.fieldLink xnR_RD 15 (xnT_RD 1).1 (xnT_RD 1).2.1 (xnT_RD 1).2.2.1 ∈ xf_GW := xf_mt 218 (by decide +kernel) (by decide +kernel)
theorem xk_RD_19 : Cond.fieldLink xnR_RD 19 (xnT_RD 2).1 (xnT_RD 2).2.1 (xnT_RD 2).2.2.1 ∈ xf_GW := xf_mt 219 (by decide +kernel) (by decide +kernel)
theorem xk_RD_23 : Cond.fieldLink xnR_RD 23 (xnT_RD 3).1 (xnT_RD 3).2.1 (xnT_RD 3).2.2.1 ∈ xf_GW := xf_mt 220 (by decide +kernel) (by decide +kernel)
theorem xk_RD_27 : Cond.methodLinkNest xnR_RD 27 xny_SC_isWithin "SteppedCache" ∈ xf_NL := xf_mn 429 (by decide +kernel) (by decide +kernel)
theorem xk_RD_31 : Cond.fieldLink xnR_RD 31 (xnT_RD 6).1 (xnT_RD 6).2.1 (xnT_RD 6).2.2.1 ∈ xf_GW := xf_mt 226 (by decide +kernel) (by decide +kernel)
theorem xk_RD_34 : Cond.fieldLink xnR_RD 34 (xnT_RD 7).1 (xnT_RD 7).2.1 (xnT_RD 7).2.2.1 ∈ xf_GW := xf_mt 227 (by decide +kernel) (by decide +kernel)
theorem xk_RD_37 : Cond.methodLink xnR_RD 37 xny_RD_keepVersion ∈ xf_GW := xf_mt 442 (by decide +kernel) (by decide +kernel)
theorem xk_RD_40 : Cond.methodLinkNest xnR_RD 40 xny_SC_firstBucket "SteppedCache" ∈ xf_NL := xf_mn 450 (by decide +kernel) (by decide +kernel)
theorem xk_RD_44 : Cond.methodLink xnR_RD 44 xny_RD_lookInto ∈ xf_GW := xf_mt 451 (by decide +kernel) (by decide +kernel)
theorem xk_RD_48 : Cond.methodLinkNest xnR_RD 48 xny_SC_secondBucket "SteppedCache" ∈ xf_NL := xf_mn 456 (by decide +kernel) (by decide +kernel)
theorem xk_RD_51 : Cond.methodLink xnR_RD 51 xny_RD_copyItem ∈ xf_GW := xf_mt 457 (by decide +kernel) (by decide +kernel)
theorem xk_RD_54 : Cond.methodLink xnR_RD 54 xny_RD_checkVersion ∈ xf_GW := xf_mt 461 (by decide +kernel) (by decide +kernel)
theorem xk_RD_57 : Cond.methodLink xnR_RD 57 xny_RD_readLocked ∈ xf_GW := xf_mt 470 (by decide +kernel) (by decide +kernel)
theorem xk_RD_60 : Cond.methodLink xnR_RD 60 xny_ST_versionFor ∈ xf_GW := xf_mt 446 (by decide +kernel) (by decide +kernel)
theorem xk_RD_65 : Cond.fieldLink xnR_RD 65 (xnT_RD 8).1 (xnT_RD 8).2.1 (xnT_RD 8).2.2.1 ∈ xf_GW := xf_mt 228 (by decide +kernel) (by decide +kernel)
theorem xk_RD_68 : Cond.fieldLink xnR_RD 68 (xnT_TA 3).1 (xnT_TA 3).2.1 (xnT_TA 3).2.2.1 ∈ xf_GW := xf_mt 29 (by decide +kernel) (by decide +kernel)
theorem xk_RD_73 : Cond.methodLink xnR_RD 73 xny_ST_lookUpIn ∈ xf_GW := xf_mt 455 (by decide +kernel) (by decide +kernel)
theorem xk_RD_77 : Cond.fieldLink xnR_RD 77 (xnT_ST 3).1 (xnT_ST 3).2.1 (xnT_ST 3).2.2.1 ∈ xf_GW := xf_mt 69 (by decide +kernel) (by decide +kernel)
theorem xk_RD_81 : Cond.fieldLink xnR_RD 81 (xnT_RD 9).1 (xnT_RD 9).2.1 (xnT_RD 9).2.2.1 ∈ xf_GW := xf_mt 229 (by decide +kernel) (by decide +kernel)
theorem xk_RD_84 : Cond.fieldLink xnR_RD 84 (xnT_ST 5).1 (xnT_ST 5).2.1 (xnT_ST 5).2.2.1 ∈ xf_GW := xf_mt 76 (by decide +kernel) (by decide +kernel)
theorem xk_RD_87 : Cond.fieldLink xnR_RD 87 (xnT_RD 4).1 (xnT_RD 4).2.1 (xnT_RD 4).2.2.1 ∈ xf_GW := xf_mt 222 (by decide +kernel) (by decide +kernel)
theorem xk_RD_90 : Cond.fieldLink xnR_RD 90 (xnT_ST 6).1 (xnT_ST 6).2.1 (xnT_ST 6).2.2.1 ∈ xf_GW := xf_mt 81 (by decide +kernel) (by decide +kernel)
theorem xk_RD_93 : Cond.fieldLink xnR_RD 93 (xnT_RD 5).1 (xnT_RD 5).2.1 (xnT_RD 5).2.2.1 ∈ xf_GW := xf_mt 224 (by decide +kernel) (by decide +kernel)
theorem xk_RD_96 : Cond.fieldLink xnR_RD 96 (xnT_ST 7).1 (xnT_ST 7).2.1 (xnT_ST 7).2.2.1 ∈ xf_GW := xf_mt 85 (by decide +kernel) (by decide +kernel)
theorem xk_RD_99 : Cond.fieldLink xnR_RD 99 (xnT_RD 10).1 (xnT_RD 10).2.1 (xnT_RD 10).2.2.1 ∈ xf_GW := xf_mt 230 (by decide +kernel) (by decide +kernel)
theorem xk_RD_102 : Cond.fieldLink xnR_RD 102 (xnT_TA 2).1 (xnT_TA 2).2.1 (xnT_TA 2).2.2.1 ∈ xf_GW := xf_mt 27 (by decide +kernel) (by decide +kernel)
theorem xk_RD_103 : Cond.methodLink xnR_RD 103 xny_ST_isOver ∈ xf_GW := xf_mt 465 (by decide +kernel) (by decide +kernel)
theorem xk_RD_107 : Cond.methodLink xnR_RD 107 xny_RD_end ∈ xf_GW := xf_mt 466 (by decide +kernel) (by decide +kernel)
theorem xk_RD_111 : Cond.methodLink xnR_RD 111 xny_WR_isUnderWay ∈ xf_GW := xf_mt 474 (by decide +kernel) (by decide +kernel)
theorem xk_RD_117 : Cond.methodLink xnR_RD 117 xny_ST_lookUp ∈ xf_GW := xf_mt 475 (by decide +kernel) (by decide +kernel)
theorem xk_RD_120 : Cond.fieldLink xnR_RD 120 (xnT_ST 8).1 (xnT_ST 8).2.1 (xnT_ST 8).2.2.1 ∈ xf_GW := xf_mt 88 (by decide +kernel) (by decide +kernel)
theorem xk_ST_9 : Cond.fieldLink xnR_ST 9 (xnT_ST 0).1 (xnT_ST 0).2.1 (xnT_ST 0).2.2.1 ∈ xf_GW := xf_mt 60 (by decide +kernel) (by decide +kernel)
theorem xk_ST_15 : Cond.fieldLink xnR_ST 15 (xnT_ST 1).1 (xnT_ST 1).2.1 (xnT_ST 1).2.2.1 ∈ xf_GW := xf_mt 61 (by decide +kernel) (by decide +kernel)
theorem xk_ST_19 : Cond.fieldLink xnR_ST 19 (xnT_ST 2).1 (xnT_ST 2).2.1 (xnT_ST 2).2.2.1 ∈ xf_GW := xf_mt 64 (by decide +kernel) (by decide +kernel)
theorem xk_ST_22 : Cond.fieldLink xnR_ST 22 (xnT_ST 3).1 (xnT_ST 3).2.1 (xnT_ST 3).2.2.1 ∈ xf_GW := xf_mt 67 (by decide +kernel) (by decide +kernel)
theorem xk_ST_26 : Cond.methodLink xnR_ST 26 xny_AR_fill ∈ xf_GW := xf_mt 57 (by decide +kernel) (by decide +kernel)
theorem xk_ST_32 : Cond.fieldLink xnR_ST 32 (xnT_ST 4).1 (xnT_ST 4).2.1 (xnT_ST 4).2.2.1 ∈ xf_GW := xf_mt 71 (by decide +kernel) (by decide +kernel)
theorem xk_ST_35 : Cond.fieldLink xnR_ST 35 (xnT_ST 5).1 (xnT_ST 5).2.1 (xnT_ST 5).2.2.1 ∈ xf_GW := xf_mt 75 (by decide +kernel) (by decide +kernel)
theorem xk_ST_38 : Cond.fieldLink xnR_ST 38 (xnT_ST 6).1 (xnT_ST 6).2.1 (xnT_ST 6).2.2.1 ∈ xf_GW := xf_mt 79 (by decide +kernel) (by decide +kernel)
theorem xk_ST_41 : Cond.fieldLink xnR_ST 41 (xnT_ST 7).1 (xnT_ST 7).2.1 (xnT_ST 7).2.2.1 ∈ xf_GW := xf_mt 83 (by decide +kernel) (by decide +kernel)
theorem xk_ST_44 : Cond.fieldLink xnR_ST 44 (xnT_ST 8).1 (xnT_ST 8).2.1 (xnT_ST 8).2.2.1 ∈ xf_GW := xf_mt 87 (by decide +kernel) (by decide +kernel)
theorem xk_ST_48 : Cond.fieldLink xnR_ST 48 (xnT_ST 9).1 (xnT_ST 9).2.1 (xnT_ST 9).2.2.1 ∈ xf_GW := xf_mt 91 (by decide +kernel) (by decide +kernel)
theorem xk_ST_51 : Cond.fieldLink xnR_ST 51 (xnT_ST 10).1 (xnT_ST 10).2.1 (xnT_ST 10).2.2.1 ∈ xf_GW := xf_mt 93 (by decide +kernel) (by decide +kernel)
theorem xk_ST_54 : Cond.fieldLink xnR_ST 54 (xnT_ST 11).1 (xnT_ST 11).2.1 (xnT_ST 11).2.2.1 ∈ xf_GW := xf_mt 95 (by decide +kernel) (by decide +kernel)
theorem xk_ST_57 : Cond.fieldLink xnR_ST 57 (xnT_ST 12).1 (xnT_ST 12).2.1 (xnT_ST 12).2.2.1 ∈ xf_GW := xf_mt 97 (by decide +kernel) (by decide +kernel)
theorem xk_ST_60 : Cond.methodLinkNest xnR_ST 60 xny_SC_firstBucket "SteppedCache" ∈ xf_NL := xf_mn 295 (by decide +kernel) (by decide +kernel)
theorem xk_ST_64 : Cond.methodLink xnR_ST 64 xny_ST_findIn ∈ xf_GW := xf_mt 306 (by decide +kernel) (by decide +kernel)
theorem xk_ST_68 : Cond.methodLinkNest xnR_ST 68 xny_SC_secondBucket "SteppedCache" ∈ xf_NL := xf_mn 313 (by decide +kernel) (by decide +kernel)
theorem xk_ST_71 : Cond.methodLink xnR_ST 71 xny_ST_lookUpIn ∈ xf_GW := xf_mt 302 (by decide +kernel) (by decide +kernel)
theorem xk_ST_74 : Cond.methodLinkNest xnR_ST 74 xny_SC_tagOf "SteppedCache" ∈ xf_NL := xf_mn 310 (by decide +kernel) (by decide +kernel)
theorem xk_ST_77 : Cond.fieldLink xnR_ST 77 (xnT_TA 4).1 (xnT_TA 4).2.1 (xnT_TA 4).2.2.1 ∈ xf_GW := xf_mt 31 (by decide +kernel) (by decide +kernel)
theorem xk_ST_82 : Cond.methodLinkNest xnR_ST 82 xny_SC_stripeOf "SteppedCache" ∈ xf_NL := xf_mn 333 (by decide +kernel) (by decide +kernel)
theorem xk_ST_85 : Cond.methodLink xnR_ST 85 xny_ST_growVersion ∈ xf_GW := xf_mt 329 (by decide +kernel) (by decide +kernel)
theorem xk_ST_89 : Cond.fieldLink xnR_ST 89 (xnT_ST 13).1 (xnT_ST 13).2.1 (xnT_ST 13).2.2.1 ∈ xf_GW := xf_mt 99 (by decide +kernel) (by decide +kernel)
theorem xk_ST_92 : Cond.methodLink xnR_ST 92 xny_ST_lowestFree ∈ xf_GW := xf_mt 409 (by decide +kernel) (by decide +kernel)
theorem xk_ST_96 : Cond.methodLink xnR_ST 96 xny_ST_renew ∈ xf_GW := xf_mt 413 (by decide +kernel) (by decide +kernel)
theorem xk_WR_9 : Cond.fieldLink xnR_WR 9 (xnT_WR 0).1 (xnT_WR 0).2.1 (xnT_WR 0).2.2.1 ∈ xf_GW := xf_mt 168 (by decide +kernel) (by decide +kernel)
theorem xk_WR_15 : Cond.fieldLink xnR_WR 15 (xnT_WR 1).1 (xnT_WR 1).2.1 (xnT_WR 1).2.2.1 ∈ xf_GW := xf_mt 169 (by decide +kernel) (by decide +kernel)
theorem xk_WR_21 : Cond.methodLink xnR_WR 21 xny_PA_init ∈ xf_GW := xf_mt 140 (by decide +kernel) (by decide +kernel)
theorem xk_WR_24 : Cond.fieldLink xnR_WR 24 (xnT_WR 2).1 (xnT_WR 2).2.1 (xnT_WR 2).2.2.1 ∈ xf_GW := xf_mt 170 (by decide +kernel) (by decide +kernel)
theorem xk_WR_28 : Cond.fieldLink xnR_WR 28 (xnT_WR 3).1 (xnT_WR 3).2.1 (xnT_WR 3).2.2.1 ∈ xf_GW := xf_mt 171 (by decide +kernel) (by decide +kernel)
theorem xk_WR_32 : Cond.fieldLink xnR_WR 32 (xnT_WR 5).1 (xnT_WR 5).2.1 (xnT_WR 5).2.2.1 ∈ xf_GW := xf_mt 175 (by decide +kernel) (by decide +kernel)
theorem xk_WR_35 : Cond.fieldLink xnR_WR 35 (xnT_WR 6).1 (xnT_WR 6).2.1 (xnT_WR 6).2.2.1 ∈ xf_GW := xf_mt 176 (by decide +kernel) (by decide +kernel)
theorem xk_WR_38 : Cond.fieldLink xnR_WR 38 (xnT_WR 7).1 (xnT_WR 7).2.1 (xnT_WR 7).2.2.1 ∈ xf_GW := xf_mt 177 (by decide +kernel) (by decide +kernel)
theorem xk_WR_41 : Cond.fieldLink xnR_WR 41 (xnT_WR 8).1 (xnT_WR 8).2.1 (xnT_WR 8).2.2.1 ∈ xf_GW := xf_mt 178 (by decide +kernel) (by decide +kernel)
theorem xk_WR_44 : Cond.fieldLink xnR_WR 44 (xnT_WR 9).1 (xnT_WR 9).2.1 (xnT_WR 9).2.2.1 ∈ xf_GW := xf_mt 179 (by decide +kernel) (by decide +kernel)
theorem xk_WR_47 : Cond.fieldLink xnR_WR 47 (xnT_WR 10).1 (xnT_WR 10).2.1 (xnT_WR 10).2.2.1 ∈ xf_GW := xf_mt 180 (by decide +kernel) (by decide +kernel)
theorem xk_WR_50 : Cond.methodLink xnR_WR 50 xny_WR_lookUpKey ∈ xf_GW := xf_mt 287 (by decide +kernel) (by decide +kernel)
theorem xk_WR_53 : Cond.methodLink xnR_WR 53 xny_WR_changeValue ∈ xf_GW := xf_mt 348 (by decide +kernel) (by decide +kernel)
theorem xk_WR_56 : Cond.methodLink xnR_WR 56 xny_WR_changeToken ∈ xf_GW := xf_mt 353 (by decide +kernel) (by decide +kernel)
theorem xk_WR_59 : Cond.methodLink xnR_WR 59 xny_WR_evict ∈ xf_GW := xf_mt 361 (by decide +kernel) (by decide +kernel)
theorem xk_WR_62 : Cond.methodLink xnR_WR 62 xny_WR_seekPath ∈ xf_GW := xf_mt 369 (by decide +kernel) (by decide +kernel)
theorem xk_WR_65 : Cond.methodLink xnR_WR 65 xny_WR_moveOn ∈ xf_GW := xf_mt 393 (by decide +kernel) (by decide +kernel)
theorem xk_WR_68 : Cond.methodLink xnR_WR 68 xny_WR_moveOff ∈ xf_GW := xf_mt 397 (by decide +kernel) (by decide +kernel)
theorem xk_WR_71 : Cond.methodLink xnR_WR 71 xny_WR_insertKey ∈ xf_GW := xf_mt 401 (by decide +kernel) (by decide +kernel)
theorem xk_WR_74 : Cond.methodLink xnR_WR 74 xny_ST_lookUp ∈ xf_GW := xf_mt 291 (by decide +kernel) (by decide +kernel)
theorem xk_WR_80 : Cond.fieldLink xnR_WR 80 (xnT_ST 3).1 (xnT_ST 3).2.1 (xnT_ST 3).2.2.1 ∈ xf_GW := xf_mt 68 (by decide +kernel) (by decide +kernel)
theorem xk_WR_84 : Cond.fieldLink xnR_WR 84 (xnT_ST 7).1 (xnT_ST 7).2.1 (xnT_ST 7).2.2.1 ∈ xf_GW := xf_mt 84 (by decide +kernel) (by decide +kernel)
theorem xk_WR_87 : Cond.methodLink xnR_WR 87 xny_ST_isOver ∈ xf_GW := xf_mt 321 (by decide +kernel) (by decide +kernel)
theorem xk_WR_91 : Cond.methodLink xnR_WR 91 xny_ST_remove ∈ xf_GW := xf_mt 325 (by decide +kernel) (by decide +kernel)
theorem xk_WR_95 : Cond.fieldLink xnR_WR 95 (xnT_TA 5).1 (xnT_TA 5).2.1 (xnT_TA 5).2.2.1 ∈ xf_GW := xf_mt 33 (by decide +kernel) (by decide +kernel)
theorem xk_WR_100 : Cond.methodLink xnR_WR 100 xny_WR_chooseWhenFound ∈ xf_GW := xf_mt 336 (by decide +kernel) (by decide +kernel)
theorem xk_WR_103 : Cond.methodLink xnR_WR 103 xny_WR_chooseWhenNotFound ∈ xf_GW := xf_mt 340 (by decide +kernel) (by decide +kernel)
theorem xk_WR_106 : Cond.fieldLink xnR_WR 106 (xnT_ST 6).1 (xnT_ST 6).2.1 (xnT_ST 6).2.2.1 ∈ xf_GW := xf_mt 80 (by decide +kernel) (by decide +kernel)
theorem xk_WR_109 : Cond.fieldLink xnR_WR 109 (xnT_WR 11).1 (xnT_WR 11).2.1 (xnT_WR 11).2.2.1 ∈ xf_GW := xf_mt 181 (by decide +kernel) (by decide +kernel)
theorem xk_WR_112 : Cond.methodLink xnR_WR 112 xny_ST_isFull ∈ xf_GW := xf_mt 344 (by decide +kernel) (by decide +kernel)
theorem xk_WR_116 : Cond.methodLink xnR_WR 116 xny_ST_growVersion ∈ xf_GW := xf_mt 352 (by decide +kernel) (by decide +kernel)
theorem xk_WR_120 : Cond.fieldLink xnR_WR 120 (xnT_ST 5).1 (xnT_ST 5).2.1 (xnT_ST 5).2.2.1 ∈ xf_GW := xf_mt 77 (by decide +kernel) (by decide +kernel)
theorem xk_WR_123 : Cond.methodLink xnR_WR 123 xny_ST_renew ∈ xf_GW := xf_mt 357 (by decide +kernel) (by decide +kernel)
theorem xk_WR_126 : Cond.fieldLink xnR_WR 126 (xnT_ST 1).1 (xnT_ST 1).2.1 (xnT_ST 1).2.2.1 ∈ xf_GW := xf_mt 62 (by decide +kernel) (by decide +kernel)
theorem xk_WR_129 : Cond.fieldLink xnR_WR 129 (xnT_ST 8).1 (xnT_ST 8).2.1 (xnT_ST 8).2.2.1 ∈ xf_GW := xf_mt 89 (by decide +kernel) (by decide +kernel)
theorem xk_WR_133 : Cond.fieldLink xnR_WR 133 (xnT_WR 4).1 (xnT_WR 4).2.1 (xnT_WR 4).2.2.1 ∈ xf_GW := xf_mt 173 (by decide +kernel) (by decide +kernel)
theorem xk_WR_136 : Cond.methodLink xnR_WR 136 xny_WR_turnHand ∈ xf_GW := xf_mt 365 (by decide +kernel) (by decide +kernel)
theorem xk_WR_139 : Cond.fieldLink xnR_WR 139 (xnT_TA 0).1 (xnT_TA 0).2.1 (xnT_TA 0).2.2.1 ∈ xf_GW := xf_mt 23 (by decide +kernel) (by decide +kernel)
theorem xk_WR_142 : Cond.methodLink xnR_WR 142 xny_PA_seek ∈ xf_GW := xf_mt 373 (by decide +kernel) (by decide +kernel)
theorem xk_WR_145 : Cond.fieldLink xnR_WR 145 (xnT_PA 2).1 (xnT_PA 2).2.1 (xnT_PA 2).2.2.1 ∈ xf_GW := xf_mt 148 (by decide +kernel) (by decide +kernel)
theorem xk_WR_148 : Cond.fieldLink xnR_WR 148 (xnT_WR 12).1 (xnT_WR 12).2.1 (xnT_WR 12).2.2.1 ∈ xf_GW := xf_mt 182 (by decide +kernel) (by decide +kernel)
theorem xk_WR_151 : Cond.methodLink xnR_WR 151 xny_WR_chooseMove ∈ xf_GW := xf_mt 389 (by decide +kernel) (by decide +kernel)
theorem xk_WR_154 : Cond.fieldLink xnR_WR 154 (xnT_PA 1).1 (xnT_PA 1).2.1 (xnT_PA 1).2.2.1 ∈ xf_GW := xf_mt 146 (by decide +kernel) (by decide +kernel)
theorem xk_WR_157 : Cond.fieldLink xnR_WR 157 (xnT_ST 4).1 (xnT_ST 4).2.1 (xnT_ST 4).2.2.1 ∈ xf_GW := xf_mt 74 (by decide +kernel) (by decide +kernel)
theorem xk_WR_160 : Cond.fieldLink xnR_WR 160 (xnT_TA 1).1 (xnT_TA 1).2.1 (xnT_TA 1).2.2.1 ∈ xf_GW := xf_mt 25 (by decide +kernel) (by decide +kernel)
theorem xk_WR_163 : Cond.methodLink xnR_WR 163 xny_ST_insert ∈ xf_GW := xf_mt 405 (by decide +kernel) (by decide +kernel)
theorem xk_LW_9 : Cond.methodLink xnR_LW 9 xny_LW_cell ∈ xf_GW := xf_mt 534 (by decide +kernel) (by decide +kernel)
theorem xk_LW_15 : Cond.methodLink xnR_LW 15 xny_SC_init ∈ xf_GW := xf_mt 11 (by decide +kernel) (by decide +kernel)
theorem xk_LW_20 : Cond.methodLink xnR_LW 20 xny_MO_init ∈ xf_GW := xf_mt 539 (by decide +kernel) (by decide +kernel)
theorem xk_LW_21 : Cond.methodLink xnR_LW 21 xny_SC_write ∈ xf_GW := xf_mt 267 (by decide +kernel) (by decide +kernel)
theorem xk_LW_25 : Cond.methodLink xnR_LW 25 xny_MO_write ∈ xf_GW := xf_mt 683 (by decide +kernel) (by decide +kernel)
theorem xk_LW_26 : Cond.methodLink xnR_LW 26 xny_SC_work ∈ xf_GW := xf_mt 279 (by decide +kernel) (by decide +kernel)
theorem xk_LW_30 : Cond.methodLink xnR_LW 30 xny_MO_work ∈ xf_GW := xf_mt 687 (by decide +kernel) (by decide +kernel)
theorem xk_LW_31 : Cond.methodLink xnR_LW 31 xny_SC_outcome ∈ xf_GW := xf_mt 414 (by decide +kernel) (by decide +kernel)
theorem xk_LW_35 : Cond.methodLink xnR_LW 35 xny_MO_outcome ∈ xf_GW := xf_mt 747 (by decide +kernel) (by decide +kernel)
theorem xk_LW_36 : Cond.methodLink xnR_LW 36 xny_SC_get ∈ xf_GW := xf_mt 418 (by decide +kernel) (by decide +kernel)
theorem xk_LW_40 : Cond.methodLink xnR_LW 40 xny_MO_get ∈ xf_GW := xf_mt 751 (by decide +kernel) (by decide +kernel)
theorem xk_LW_41 : Cond.methodLink xnR_LW 41 xny_SC_step ∈ xf_GW := xf_mt 434 (by decide +kernel) (by decide +kernel)
theorem xk_LW_44 : Cond.methodLink xnR_LW 44 xny_MO_step ∈ xf_GW := xf_mt 762 (by decide +kernel) (by decide +kernel)
theorem xk_LW_45 : Cond.methodLink xnR_LW 45 xny_SC_state ∈ xf_GW := xf_mt 476 (by decide +kernel) (by decide +kernel)
theorem xk_LW_48 : Cond.methodLink xnR_LW 48 xny_MO_state ∈ xf_GW := xf_mt 786 (by decide +kernel) (by decide +kernel)
theorem xk_LW_49 : Cond.methodLink xnR_LW 49 xny_SC_value ∈ xf_GW := xf_mt 480 (by decide +kernel) (by decide +kernel)
theorem xk_LW_52 : Cond.methodLink xnR_LW 52 xny_MO_value ∈ xf_GW := xf_mt 790 (by decide +kernel) (by decide +kernel)
theorem xk_LW_53 : Cond.methodLink xnR_LW 53 xny_SC_token ∈ xf_GW := xf_mt 488 (by decide +kernel) (by decide +kernel)
theorem xk_LW_56 : Cond.methodLink xnR_LW 56 xny_MO_token ∈ xf_GW := xf_mt 794 (by decide +kernel) (by decide +kernel)
theorem xk_LW_57 : Cond.methodLink xnR_LW 57 xny_SC_pass ∈ xf_GW := xf_mt 492 (by decide +kernel) (by decide +kernel)
theorem xk_LW_61 : Cond.methodLink xnR_LW 61 xny_MO_pass ∈ xf_GW := xf_mt 798 (by decide +kernel) (by decide +kernel)
theorem xk_LW_62 : Cond.methodLink xnR_LW 62 xny_SC_where ∈ xf_GW := xf_mt 496 (by decide +kernel) (by decide +kernel)
theorem xk_LW_65 : Cond.methodLink xnR_LW 65 xny_MO_where ∈ xf_GW := xf_mt 675 (by decide +kernel) (by decide +kernel)
theorem xk_LW_66 : Cond.methodLink xnR_LW 66 xny_SC_at ∈ xf_GW := xf_mt 504 (by decide +kernel) (by decide +kernel)
theorem xk_LW_69 : Cond.methodLink xnR_LW 69 xny_MO_at ∈ xf_GW := xf_mt 802 (by decide +kernel) (by decide +kernel)
theorem xk_LW_70 : Cond.methodLink xnR_LW 70 xny_SC_item ∈ xf_GW := xf_mt 508 (by decide +kernel) (by decide +kernel)
theorem xk_LW_74 : Cond.methodLink xnR_LW 74 xny_MO_item ∈ xf_GW := xf_mt 810 (by decide +kernel) (by decide +kernel)
theorem xk_LW_75 : Cond.methodLink xnR_LW 75 xny_SC_used ∈ xf_GW := xf_mt 516 (by decide +kernel) (by decide +kernel)
theorem xk_LW_78 : Cond.methodLink xnR_LW 78 xny_MO_used ∈ xf_GW := xf_mt 806 (by decide +kernel) (by decide +kernel)
theorem xk_LW_79 : Cond.methodLink xnR_LW 79 xny_SC_version ∈ xf_GW := xf_mt 520 (by decide +kernel) (by decide +kernel)
theorem xk_LW_82 : Cond.methodLink xnR_LW 82 xny_MO_version ∈ xf_GW := xf_mt 814 (by decide +kernel) (by decide +kernel)
theorem xk_LW_83 : Cond.methodLink xnR_LW 83 xny_SC_hash ∈ xf_GW := xf_mt 524 (by decide +kernel) (by decide +kernel)
theorem xk_LW_86 : Cond.methodLink xnR_LW 86 xny_MO_hash ∈ xf_GW := xf_mt 658 (by decide +kernel) (by decide +kernel)
theorem xk_LW_87 : Cond.methodLink xnR_LW 87 xny_SC_count ∈ xf_GW := xf_mt 530 (by decide +kernel) (by decide +kernel)
theorem xk_LW_90 : Cond.methodLink xnR_LW 90 xny_MO_count ∈ xf_GW := xf_mt 818 (by decide +kernel) (by decide +kernel)
theorem xk_MO_7 : Cond.fieldLink xnR_MO 7 (xnT_MO 5).1 (xnT_MO 5).2.1 (xnT_MO 5).2.2.1 ∈ xf_GW := xf_mt 548 (by decide +kernel) (by decide +kernel)
theorem xk_MO_13 : Cond.fieldLink xnR_MO 13 (xnT_MO 6).1 (xnT_MO 6).2.1 (xnT_MO 6).2.2.1 ∈ xf_GW := xf_mt 549 (by decide +kernel) (by decide +kernel)
theorem xk_MO_17 : Cond.fieldLink xnR_MO 17 (xnT_MO 7).1 (xnT_MO 7).2.1 (xnT_MO 7).2.2.1 ∈ xf_GW := xf_mt 550 (by decide +kernel) (by decide +kernel)
theorem xk_MO_20 : Cond.fieldLink xnR_MO 20 (xnT_MO 8).1 (xnT_MO 8).2.1 (xnT_MO 8).2.2.1 ∈ xf_GW := xf_mt 551 (by decide +kernel) (by decide +kernel)
theorem xk_MO_23 : Cond.fieldLink xnR_MO 23 (xnT_MO 9).1 (xnT_MO 9).2.1 (xnT_MO 9).2.2.1 ∈ xf_GW := xf_mt 552 (by decide +kernel) (by decide +kernel)
theorem xk_MO_26 : Cond.fieldLink xnR_MO 26 (xnT_MO 10).1 (xnT_MO 10).2.1 (xnT_MO 10).2.2.1 ∈ xf_GW := xf_mt 553 (by decide +kernel) (by decide +kernel)
theorem xk_MO_29 : Cond.fieldLink xnR_MO 29 (xnT_MO 11).1 (xnT_MO 11).2.1 (xnT_MO 11).2.2.1 ∈ xf_GW := xf_mt 554 (by decide +kernel) (by decide +kernel)
theorem xk_MO_32 : Cond.fieldLink xnR_MO 32 (xnT_MO 12).1 (xnT_MO 12).2.1 (xnT_MO 12).2.2.1 ∈ xf_GW := xf_mt 555 (by decide +kernel) (by decide +kernel)
theorem xk_MO_35 : Cond.fieldLink xnR_MO 35 (xnT_MO 14).1 (xnT_MO 14).2.1 (xnT_MO 14).2.2.1 ∈ xf_GW := xf_mt 557 (by decide +kernel) (by decide +kernel)
theorem xk_MO_39 : Cond.fieldLink xnR_MO 39 (xnT_MO 23).1 (xnT_MO 23).2.1 (xnT_MO 23).2.2.1 ∈ xf_GW := xf_mt 566 (by decide +kernel) (by decide +kernel)
theorem xk_MO_42 : Cond.fieldLink xnR_MO 42 (xnT_MO 24).1 (xnT_MO 24).2.1 (xnT_MO 24).2.2.1 ∈ xf_GW := xf_mt 567 (by decide +kernel) (by decide +kernel)
theorem xk_MO_45 : Cond.fieldLink xnR_MO 45 (xnT_MO 25).1 (xnT_MO 25).2.1 (xnT_MO 25).2.2.1 ∈ xf_GW := xf_mt 568 (by decide +kernel) (by decide +kernel)
theorem xk_MO_48 : Cond.fieldLink xnR_MO 48 (xnT_MO 26).1 (xnT_MO 26).2.1 (xnT_MO 26).2.2.1 ∈ xf_GW := xf_mt 569 (by decide +kernel) (by decide +kernel)
theorem xk_MO_51 : Cond.fieldLink xnR_MO 51 (xnT_MO 27).1 (xnT_MO 27).2.1 (xnT_MO 27).2.2.1 ∈ xf_GW := xf_mt 570 (by decide +kernel) (by decide +kernel)
theorem xk_MO_54 : Cond.fieldLink xnR_MO 54 (xnT_MO 28).1 (xnT_MO 28).2.1 (xnT_MO 28).2.2.1 ∈ xf_GW := xf_mt 571 (by decide +kernel) (by decide +kernel)
theorem xk_MO_57 : Cond.fieldLink xnR_MO 57 (xnT_MO 29).1 (xnT_MO 29).2.1 (xnT_MO 29).2.2.1 ∈ xf_GW := xf_mt 572 (by decide +kernel) (by decide +kernel)
theorem xk_MO_60 : Cond.fieldLink xnR_MO 60 (xnT_MO 30).1 (xnT_MO 30).2.1 (xnT_MO 30).2.2.1 ∈ xf_GW := xf_mt 573 (by decide +kernel) (by decide +kernel)
theorem xk_MO_63 : Cond.fieldLink xnR_MO 63 (xnT_MO 31).1 (xnT_MO 31).2.1 (xnT_MO 31).2.2.1 ∈ xf_GW := xf_mt 574 (by decide +kernel) (by decide +kernel)
theorem xk_MO_66 : Cond.fieldLink xnR_MO 66 (xnT_MO 0).1 (xnT_MO 0).2.1 (xnT_MO 0).2.2.1 ∈ xf_GW := xf_mt 543 (by decide +kernel) (by decide +kernel)
theorem xk_MO_69 : Cond.fieldLink xnR_MO 69 (xnT_MO 1).1 (xnT_MO 1).2.1 (xnT_MO 1).2.2.1 ∈ xf_GW := xf_mt 544 (by decide +kernel) (by decide +kernel)
theorem xkc_MO_72 : Cond.constant xnR_MO 72 (1368264107) ∈ xf_GW := xf_mt 668 (by decide +kernel) (by decide +kernel)
theorem xk_MO_73 : Cond.methodLink xnR_MO 73 xny_MO_mix ∈ xf_GW := xf_mt 665 (by decide +kernel) (by decide +kernel)
theorem xk_MO_77 : Cond.methodLink xnR_MO 77 xny_MO_tag ∈ xf_GW := xf_mt 669 (by decide +kernel) (by decide +kernel)
theorem xk_MO_80 : Cond.methodLink xnR_MO 80 xny_MO_bucket ∈ xf_GW := xf_mt 662 (by decide +kernel) (by decide +kernel)
theorem xk_MO_84 : Cond.methodLink xnR_MO 84 xny_MO_stripe ∈ xf_GW := xf_mt 672 (by decide +kernel) (by decide +kernel)
theorem xk_MO_87 : Cond.methodLink xnR_MO 87 xny_MO_search ∈ xf_GW := xf_mt 679 (by decide +kernel) (by decide +kernel)
theorem xk_MO_90 : Cond.fieldLink xnR_MO 90 (xnT_MO 36).1 (xnT_MO 36).2.1 (xnT_MO 36).2.2.1 ∈ xf_GW := xf_mt 579 (by decide +kernel) (by decide +kernel)
theorem xk_MO_93 : Cond.methodLink xnR_MO 93 xny_MO_look ∈ xf_GW := xf_mt 703 (by decide +kernel) (by decide +kernel)
theorem xk_MO_96 : Cond.fieldLink xnR_MO 96 (xnT_MO 2).1 (xnT_MO 2).2.1 (xnT_MO 2).2.2.1 ∈ xf_GW := xf_mt 545 (by decide +kernel) (by decide +kernel)
theorem xk_MO_99 : Cond.fieldLink xnR_MO 99 (xnT_MO 13).1 (xnT_MO 13).2.1 (xnT_MO 13).2.2.1 ∈ xf_GW := xf_mt 556 (by decide +kernel) (by decide +kernel)
theorem xk_MO_102 : Cond.fieldLink xnR_MO 102 (xnT_MO 15).1 (xnT_MO 15).2.1 (xnT_MO 15).2.2.1 ∈ xf_GW := xf_mt 558 (by decide +kernel) (by decide +kernel)
theorem xk_MO_105 : Cond.fieldLink xnR_MO 105 (xnT_MO 16).1 (xnT_MO 16).2.1 (xnT_MO 16).2.2.1 ∈ xf_GW := xf_mt 559 (by decide +kernel) (by decide +kernel)
theorem xk_MO_108 : Cond.fieldLink xnR_MO 108 (xnT_MO 17).1 (xnT_MO 17).2.1 (xnT_MO 17).2.2.1 ∈ xf_GW := xf_mt 560 (by decide +kernel) (by decide +kernel)
theorem xk_MO_111 : Cond.fieldLink xnR_MO 111 (xnT_MO 18).1 (xnT_MO 18).2.1 (xnT_MO 18).2.2.1 ∈ xf_GW := xf_mt 561 (by decide +kernel) (by decide +kernel)
theorem xk_MO_114 : Cond.fieldLink xnR_MO 114 (xnT_MO 19).1 (xnT_MO 19).2.1 (xnT_MO 19).2.2.1 ∈ xf_GW := xf_mt 562 (by decide +kernel) (by decide +kernel)
theorem xk_MO_117 : Cond.methodLink xnR_MO 117 xny_MO_one ∈ xf_GW := xf_mt 691 (by decide +kernel) (by decide +kernel)
theorem xk_MO_120 : Cond.methodLink xnR_MO 120 xny_MO_begin ∈ xf_GW := xf_mt 695 (by decide +kernel) (by decide +kernel)
theorem xk_MO_123 : Cond.fieldLink xnR_MO 123 (xnT_MO 20).1 (xnT_MO 20).2.1 (xnT_MO 20).2.2.1 ∈ xf_GW := xf_mt 563 (by decide +kernel) (by decide +kernel)
theorem xk_MO_126 : Cond.methodLink xnR_MO 126 xny_MO_stamp ∈ xf_GW := xf_mt 723 (by decide +kernel) (by decide +kernel)
theorem xk_MO_130 : Cond.methodLink xnR_MO 130 xny_MO_finish ∈ xf_GW := xf_mt 715 (by decide +kernel) (by decide +kernel)
theorem xk_MO_133 : Cond.methodLink xnR_MO 133 xny_MO_evict ∈ xf_GW := xf_mt 727 (by decide +kernel) (by decide +kernel)
theorem xk_MO_136 : Cond.methodLink xnR_MO 136 xny_MO_seek ∈ xf_GW := xf_mt 731 (by decide +kernel) (by decide +kernel)
theorem xk_MO_139 : Cond.methodLink xnR_MO 139 xny_MO_move ∈ xf_GW := xf_mt 739 (by decide +kernel) (by decide +kernel)
theorem xk_MO_142 : Cond.methodLink xnR_MO 142 xny_MO_enter ∈ xf_GW := xf_mt 743 (by decide +kernel) (by decide +kernel)
theorem xk_MO_145 : Cond.fieldLink xnR_MO 145 (xnT_MO 4).1 (xnT_MO 4).2.1 (xnT_MO 4).2.2.1 ∈ xf_GW := xf_mt 547 (by decide +kernel) (by decide +kernel)
theorem xk_MO_148 : Cond.methodLink xnR_MO 148 xny_MO_lookBoth ∈ xf_GW := xf_mt 699 (by decide +kernel) (by decide +kernel)
theorem xk_MO_151 : Cond.methodLink xnR_MO 151 xny_MO_over ∈ xf_GW := xf_mt 707 (by decide +kernel) (by decide +kernel)
theorem xk_MO_155 : Cond.methodLink xnR_MO 155 xny_MO_remove ∈ xf_GW := xf_mt 711 (by decide +kernel) (by decide +kernel)
theorem xk_MO_158 : Cond.fieldLink xnR_MO 158 (xnT_MO 37).1 (xnT_MO 37).2.1 (xnT_MO 37).2.2.1 ∈ xf_GW := xf_mt 580 (by decide +kernel) (by decide +kernel)
theorem xk_MO_161 : Cond.methodLink xnR_MO 161 xny_MO_many ∈ xf_GW := xf_mt 719 (by decide +kernel) (by decide +kernel)
theorem xk_MO_165 : Cond.fieldLink xnR_MO 165 (xnT_MO 3).1 (xnT_MO 3).2.1 (xnT_MO 3).2.2.1 ∈ xf_GW := xf_mt 546 (by decide +kernel) (by decide +kernel)
theorem xk_MO_168 : Cond.fieldLink xnR_MO 168 (xnT_MO 32).1 (xnT_MO 32).2.1 (xnT_MO 32).2.2.1 ∈ xf_GW := xf_mt 575 (by decide +kernel) (by decide +kernel)
theorem xk_MO_171 : Cond.methodLink xnR_MO 171 xny_MO_leads ∈ xf_GW := xf_mt 735 (by decide +kernel) (by decide +kernel)
theorem xk_MO_175 : Cond.fieldLink xnR_MO 175 (xnT_MO 21).1 (xnT_MO 21).2.1 (xnT_MO 21).2.2.1 ∈ xf_GW := xf_mt 564 (by decide +kernel) (by decide +kernel)
theorem xk_MO_178 : Cond.fieldLink xnR_MO 178 (xnT_MO 22).1 (xnT_MO 22).2.1 (xnT_MO 22).2.2.1 ∈ xf_GW := xf_mt 565 (by decide +kernel) (by decide +kernel)
theorem xk_MO_181 : Cond.fieldLink xnR_MO 181 (xnT_MO 33).1 (xnT_MO 33).2.1 (xnT_MO 33).2.2.1 ∈ xf_GW := xf_mt 576 (by decide +kernel) (by decide +kernel)
theorem xk_MO_184 : Cond.methodLink xnR_MO 184 xny_MO_reader ∈ xf_GW := xf_mt 755 (by decide +kernel) (by decide +kernel)
theorem xk_MO_187 : Cond.methodLink xnR_MO 187 xny_MO_reading ∈ xf_GW := xf_mt 758 (by decide +kernel) (by decide +kernel)
theorem xk_MO_190 : Cond.methodLink xnR_MO 190 xny_MO_keep ∈ xf_GW := xf_mt 766 (by decide +kernel) (by decide +kernel)
theorem xk_MO_194 : Cond.methodLink xnR_MO 194 xny_MO_find ∈ xf_GW := xf_mt 770 (by decide +kernel) (by decide +kernel)
theorem xk_MO_197 : Cond.methodLink xnR_MO 197 xny_MO_copy ∈ xf_GW := xf_mt 774 (by decide +kernel) (by decide +kernel)
theorem xk_MO_200 : Cond.methodLink xnR_MO 200 xny_MO_check ∈ xf_GW := xf_mt 778 (by decide +kernel) (by decide +kernel)
theorem xk_MO_203 : Cond.methodLink xnR_MO 203 xny_MO_locked ∈ xf_GW := xf_mt 782 (by decide +kernel) (by decide +kernel)
theorem xk_MO_206 : Cond.fieldLink xnR_MO 206 (xnT_MO 35).1 (xnT_MO 35).2.1 (xnT_MO 35).2.2.1 ∈ xf_GW := xf_mt 578 (by decide +kernel) (by decide +kernel)
theorem xk_MO_209 : Cond.fieldLink xnR_MO 209 (xnT_MO 34).1 (xnT_MO 34).2.1 (xnT_MO 34).2.2.1 ∈ xf_GW := xf_mt 577 (by decide +kernel) (by decide +kernel)
theorem xq_SC_isWithin : xf_sta xny_SC_isWithin xnc_SC_isWithin 3 (some .boolean) 3 := ⟨⟨xf_mt 52 (by decide +kernel) rfl, xf_mt 1 (by decide +kernel) rfl, by decide +kernel, by decide +kernel, by decide +kernel⟩, xf_mt 51 (by decide +kernel) rfl⟩
theorem xq_AR_fill : xf_sta xny_AR_fill xnc_AR_fill 4 none 2 := ⟨⟨xf_mt 59 (by decide +kernel) rfl, xf_mt 4 (by decide +kernel) rfl, by decide +kernel, by decide +kernel, by decide +kernel⟩, xf_mt 58 (by decide +kernel) rfl⟩
theorem xq_SC_write : xf_vir xny_SC_write xnc_SC_write 6 (some .boolean) 5 := ⟨⟨xf_mt 270 (by decide +kernel) rfl, xf_mt 1 (by decide +kernel) rfl, by decide +kernel, by decide +kernel, by decide +kernel⟩, xf_mt 268 (by decide +kernel) rfl, xf_mt 269 (by decide +kernel) rfl⟩
theorem xq_WR_isUnderWay : xf_vir xny_WR_isUnderWay xnc_WR_isUnderWay 1 (some .boolean) 0 := ⟨⟨xf_mt 274 (by decide +kernel) rfl, xf_mt 5 (by decide +kernel) rfl, by decide +kernel, by decide +kernel, by decide +kernel⟩, xf_mt 272 (by decide +kernel) rfl, xf_mt 273 (by decide +kernel) rfl⟩
theorem xq_WR_begin : xf_vir xny_WR_begin xnc_WR_begin 6 none 5 := ⟨⟨xf_mt 278 (by decide +kernel) rfl, xf_mt 5 (by decide +kernel) rfl, by decide +kernel, by decide +kernel, by decide +kernel⟩, xf_mt 276 (by decide +kernel) rfl, xf_mt 277 (by decide +kernel) rfl⟩
theorem xq_SC_work : xf_vir xny_SC_work xnc_SC_work 3 (some .int) 1 := ⟨⟨xf_mt 282 (by decide +kernel) rfl, xf_mt 1 (by decide +kernel) rfl, by decide +kernel, by decide +kernel, by decide +kernel⟩, xf_mt 280 (by decide +kernel) rfl, xf_mt 281 (by decide +kernel) rfl⟩
theorem xq_WR_goOn : xf_vir xny_WR_goOn xnc_WR_goOn 1 none 0 := ⟨⟨xf_mt 286 (by decide +kernel) rfl, xf_mt 5 (by decide +kernel) rfl, by decide +kernel, by decide +kernel, by decide +kernel⟩, xf_mt 284 (by decide +kernel) rfl, xf_mt 285 (by decide +kernel) rfl⟩
theorem xq_WR_lookUpKey : xf_vir xny_WR_lookUpKey xnc_WR_lookUpKey 3 none 0 := ⟨⟨xf_mt 290 (by decide +kernel) rfl, xf_mt 5 (by decide +kernel) rfl, by decide +kernel, by decide +kernel, by decide +kernel⟩, xf_mt 289 (by decide +kernel) rfl, xf_ms 0 (by decide +kernel) rfl⟩
theorem xq_ST_lookUp : xf_vir xny_ST_lookUp xnc_ST_lookUp 3 (some .int) 1 := ⟨⟨xf_mt 294 (by decide +kernel) rfl, xf_mt 3 (by decide +kernel) rfl, by decide +kernel, by decide +kernel, by decide +kernel⟩, xf_mt 292 (by decide +kernel) rfl, xf_mt 293 (by decide +kernel) rfl⟩
theorem xq_SC_firstBucket : xf_sta xny_SC_firstBucket xnc_SC_firstBucket 1 (some .int) 1 := ⟨⟨xf_mt 297 (by decide +kernel) rfl, xf_mt 1 (by decide +kernel) rfl, by decide +kernel, by decide +kernel, by decide +kernel⟩, xf_mt 296 (by decide +kernel) rfl⟩
theorem xq_SC_mix : xf_sta xny_SC_mix xnc_SC_mix 1 (some .int) 1 := ⟨⟨xf_mt 300 (by decide +kernel) rfl, xf_mt 1 (by decide +kernel) rfl, by decide +kernel, by decide +kernel, by decide +kernel⟩, xf_mt 299 (by decide +kernel) rfl⟩
theorem xq_ST_lookUpIn : xf_vir xny_ST_lookUpIn xnc_ST_lookUpIn 6 (some .int) 2 := ⟨⟨xf_mt 305 (by decide +kernel) rfl, xf_mt 3 (by decide +kernel) rfl, by decide +kernel, by decide +kernel, by decide +kernel⟩, xf_mt 303 (by decide +kernel) rfl, xf_mt 304 (by decide +kernel) rfl⟩
theorem xq_ST_findIn : xf_vir xny_ST_findIn xnc_ST_findIn 5 (some .int) 2 := ⟨⟨xf_mt 309 (by decide +kernel) rfl, xf_mt 3 (by decide +kernel) rfl, by decide +kernel, by decide +kernel, by decide +kernel⟩, xf_mt 307 (by decide +kernel) rfl, xf_mt 308 (by decide +kernel) rfl⟩
theorem xq_SC_tagOf : xf_sta xny_SC_tagOf xnc_SC_tagOf 1 (some .int) 1 := ⟨⟨xf_mt 312 (by decide +kernel) rfl, xf_mt 1 (by decide +kernel) rfl, by decide +kernel, by decide +kernel, by decide +kernel⟩, xf_mt 311 (by decide +kernel) rfl⟩
theorem xq_SC_secondBucket : xf_sta xny_SC_secondBucket xnc_SC_secondBucket 1 (some .int) 1 := ⟨⟨xf_mt 315 (by decide +kernel) rfl, xf_mt 1 (by decide +kernel) rfl, by decide +kernel, by decide +kernel, by decide +kernel⟩, xf_mt 314 (by decide +kernel) rfl⟩
theorem xq_SC_otherBucket : xf_sta xny_SC_otherBucket xnc_SC_otherBucket 2 (some .int) 2 := ⟨⟨xf_mt 319 (by decide +kernel) rfl, xf_mt 1 (by decide +kernel) rfl, by decide +kernel, by decide +kernel, by decide +kernel⟩, xf_mt 318 (by decide +kernel) rfl⟩
theorem xq_ST_isOver : xf_vir xny_ST_isOver xnc_ST_isOver 2 (some .boolean) 1 := ⟨⟨xf_mt 324 (by decide +kernel) rfl, xf_mt 3 (by decide +kernel) rfl, by decide +kernel, by decide +kernel, by decide +kernel⟩, xf_mt 322 (by decide +kernel) rfl, xf_mt 323 (by decide +kernel) rfl⟩
theorem xq_ST_remove : xf_vir xny_ST_remove xnc_ST_remove 3 none 1 := ⟨⟨xf_mt 328 (by decide +kernel) rfl, xf_mt 3 (by decide +kernel) rfl, by decide +kernel, by decide +kernel, by decide +kernel⟩, xf_mt 326 (by decide +kernel) rfl, xf_mt 327 (by decide +kernel) rfl⟩
theorem xq_ST_growVersion : xf_vir xny_ST_growVersion xnc_ST_growVersion 3 none 2 := ⟨⟨xf_mt 332 (by decide +kernel) rfl, xf_mt 3 (by decide +kernel) rfl, by decide +kernel, by decide +kernel, by decide +kernel⟩, xf_mt 330 (by decide +kernel) rfl, xf_mt 331 (by decide +kernel) rfl⟩
theorem xq_SC_stripeOf : xf_sta xny_SC_stripeOf xnc_SC_stripeOf 1 (some .int) 1 := ⟨⟨xf_mt 335 (by decide +kernel) rfl, xf_mt 1 (by decide +kernel) rfl, by decide +kernel, by decide +kernel, by decide +kernel⟩, xf_mt 334 (by decide +kernel) rfl⟩
theorem xq_WR_chooseWhenFound : xf_vir xny_WR_chooseWhenFound xnc_WR_chooseWhenFound 2 none 1 := ⟨⟨xf_mt 339 (by decide +kernel) rfl, xf_mt 5 (by decide +kernel) rfl, by decide +kernel, by decide +kernel, by decide +kernel⟩, xf_mt 338 (by decide +kernel) rfl, xf_ms 1 (by decide +kernel) rfl⟩
theorem xq_WR_chooseWhenNotFound : xf_vir xny_WR_chooseWhenNotFound xnc_WR_chooseWhenNotFound 1 none 0 := ⟨⟨xf_mt 343 (by decide +kernel) rfl, xf_mt 5 (by decide +kernel) rfl, by decide +kernel, by decide +kernel, by decide +kernel⟩, xf_mt 342 (by decide +kernel) rfl, xf_ms 2 (by decide +kernel) rfl⟩
theorem xq_ST_isFull : xf_vir xny_ST_isFull xnc_ST_isFull 1 (some .boolean) 0 := ⟨⟨xf_mt 347 (by decide +kernel) rfl, xf_mt 3 (by decide +kernel) rfl, by decide +kernel, by decide +kernel, by decide +kernel⟩, xf_mt 345 (by decide +kernel) rfl, xf_mt 346 (by decide +kernel) rfl⟩
theorem xq_WR_changeValue : xf_vir xny_WR_changeValue xnc_WR_changeValue 1 none 0 := ⟨⟨xf_mt 351 (by decide +kernel) rfl, xf_mt 5 (by decide +kernel) rfl, by decide +kernel, by decide +kernel, by decide +kernel⟩, xf_mt 350 (by decide +kernel) rfl, xf_ms 3 (by decide +kernel) rfl⟩
theorem xq_WR_changeToken : xf_vir xny_WR_changeToken xnc_WR_changeToken 1 none 0 := ⟨⟨xf_mt 356 (by decide +kernel) rfl, xf_mt 5 (by decide +kernel) rfl, by decide +kernel, by decide +kernel, by decide +kernel⟩, xf_mt 355 (by decide +kernel) rfl, xf_ms 4 (by decide +kernel) rfl⟩
theorem xq_ST_renew : xf_vir xny_ST_renew xnc_ST_renew 3 none 2 := ⟨⟨xf_mt 360 (by decide +kernel) rfl, xf_mt 3 (by decide +kernel) rfl, by decide +kernel, by decide +kernel, by decide +kernel⟩, xf_mt 358 (by decide +kernel) rfl, xf_mt 359 (by decide +kernel) rfl⟩
theorem xq_WR_evict : xf_vir xny_WR_evict xnc_WR_evict 2 none 0 := ⟨⟨xf_mt 364 (by decide +kernel) rfl, xf_mt 5 (by decide +kernel) rfl, by decide +kernel, by decide +kernel, by decide +kernel⟩, xf_mt 363 (by decide +kernel) rfl, xf_ms 5 (by decide +kernel) rfl⟩
theorem xq_WR_turnHand : xf_vir xny_WR_turnHand xnc_WR_turnHand 1 none 0 := ⟨⟨xf_mt 368 (by decide +kernel) rfl, xf_mt 5 (by decide +kernel) rfl, by decide +kernel, by decide +kernel, by decide +kernel⟩, xf_mt 367 (by decide +kernel) rfl, xf_ms 6 (by decide +kernel) rfl⟩
theorem xq_WR_seekPath : xf_vir xny_WR_seekPath xnc_WR_seekPath 1 none 0 := ⟨⟨xf_mt 372 (by decide +kernel) rfl, xf_mt 5 (by decide +kernel) rfl, by decide +kernel, by decide +kernel, by decide +kernel⟩, xf_mt 371 (by decide +kernel) rfl, xf_ms 7 (by decide +kernel) rfl⟩
theorem xq_PA_seek : xf_vir xny_PA_seek xnc_PA_seek 4 (some .boolean) 1 := ⟨⟨xf_mt 376 (by decide +kernel) rfl, xf_mt 6 (by decide +kernel) rfl, by decide +kernel, by decide +kernel, by decide +kernel⟩, xf_mt 374 (by decide +kernel) rfl, xf_mt 375 (by decide +kernel) rfl⟩
theorem xq_PA_enter : xf_vir xny_PA_enter xnc_PA_enter 6 none 3 := ⟨⟨xf_mt 382 (by decide +kernel) rfl, xf_mt 6 (by decide +kernel) rfl, by decide +kernel, by decide +kernel, by decide +kernel⟩, xf_mt 381 (by decide +kernel) rfl, xf_ms 8 (by decide +kernel) rfl⟩
theorem xq_PA_keep : xf_vir xny_PA_keep xnc_PA_keep 4 none 1 := ⟨⟨xf_mt 387 (by decide +kernel) rfl, xf_mt 6 (by decide +kernel) rfl, by decide +kernel, by decide +kernel, by decide +kernel⟩, xf_mt 386 (by decide +kernel) rfl, xf_ms 9 (by decide +kernel) rfl⟩
theorem xq_WR_chooseMove : xf_vir xny_WR_chooseMove xnc_WR_chooseMove 1 none 0 := ⟨⟨xf_mt 392 (by decide +kernel) rfl, xf_mt 5 (by decide +kernel) rfl, by decide +kernel, by decide +kernel, by decide +kernel⟩, xf_mt 391 (by decide +kernel) rfl, xf_ms 10 (by decide +kernel) rfl⟩
theorem xq_WR_moveOn : xf_vir xny_WR_moveOn xnc_WR_moveOn 2 none 0 := ⟨⟨xf_mt 396 (by decide +kernel) rfl, xf_mt 5 (by decide +kernel) rfl, by decide +kernel, by decide +kernel, by decide +kernel⟩, xf_mt 395 (by decide +kernel) rfl, xf_ms 11 (by decide +kernel) rfl⟩
theorem xq_WR_moveOff : xf_vir xny_WR_moveOff xnc_WR_moveOff 2 none 0 := ⟨⟨xf_mt 400 (by decide +kernel) rfl, xf_mt 5 (by decide +kernel) rfl, by decide +kernel, by decide +kernel, by decide +kernel⟩, xf_mt 399 (by decide +kernel) rfl, xf_ms 12 (by decide +kernel) rfl⟩
theorem xq_WR_insertKey : xf_vir xny_WR_insertKey xnc_WR_insertKey 1 none 0 := ⟨⟨xf_mt 404 (by decide +kernel) rfl, xf_mt 5 (by decide +kernel) rfl, by decide +kernel, by decide +kernel, by decide +kernel⟩, xf_mt 403 (by decide +kernel) rfl, xf_ms 13 (by decide +kernel) rfl⟩
theorem xq_ST_insert : xf_vir xny_ST_insert xnc_ST_insert 6 none 4 := ⟨⟨xf_mt 408 (by decide +kernel) rfl, xf_mt 3 (by decide +kernel) rfl, by decide +kernel, by decide +kernel, by decide +kernel⟩, xf_mt 406 (by decide +kernel) rfl, xf_mt 407 (by decide +kernel) rfl⟩
theorem xq_ST_lowestFree : xf_vir xny_ST_lowestFree xnc_ST_lowestFree 2 (some .int) 0 := ⟨⟨xf_mt 412 (by decide +kernel) rfl, xf_mt 3 (by decide +kernel) rfl, by decide +kernel, by decide +kernel, by decide +kernel⟩, xf_mt 410 (by decide +kernel) rfl, xf_mt 411 (by decide +kernel) rfl⟩
theorem xq_SC_outcome : xf_vir xny_SC_outcome xnc_SC_outcome 1 (some .int) 0 := ⟨⟨xf_mt 417 (by decide +kernel) rfl, xf_mt 1 (by decide +kernel) rfl, by decide +kernel, by decide +kernel, by decide +kernel⟩, xf_mt 415 (by decide +kernel) rfl, xf_mt 416 (by decide +kernel) rfl⟩
theorem xq_SC_get : xf_vir xny_SC_get xnc_SC_get 3 (some .boolean) 2 := ⟨⟨xf_mt 421 (by decide +kernel) rfl, xf_mt 1 (by decide +kernel) rfl, by decide +kernel, by decide +kernel, by decide +kernel⟩, xf_mt 419 (by decide +kernel) rfl, xf_mt 420 (by decide +kernel) rfl⟩
theorem xq_SC_isReader : xf_sta xny_SC_isReader xnc_SC_isReader 1 (some .boolean) 1 := ⟨⟨xf_mt 424 (by decide +kernel) rfl, xf_mt 1 (by decide +kernel) rfl, by decide +kernel, by decide +kernel, by decide +kernel⟩, xf_mt 423 (by decide +kernel) rfl⟩
theorem xq_RD_isUnderWay : xf_vir xny_RD_isUnderWay xnc_RD_isUnderWay 1 (some .boolean) 0 := ⟨⟨xf_mt 428 (by decide +kernel) rfl, xf_mt 7 (by decide +kernel) rfl, by decide +kernel, by decide +kernel, by decide +kernel⟩, xf_mt 426 (by decide +kernel) rfl, xf_mt 427 (by decide +kernel) rfl⟩
theorem xq_RD_begin : xf_vir xny_RD_begin xnc_RD_begin 2 none 1 := ⟨⟨xf_mt 433 (by decide +kernel) rfl, xf_mt 7 (by decide +kernel) rfl, by decide +kernel, by decide +kernel, by decide +kernel⟩, xf_mt 431 (by decide +kernel) rfl, xf_mt 432 (by decide +kernel) rfl⟩
theorem xq_SC_step : xf_vir xny_SC_step xnc_SC_step 2 (some .int) 1 := ⟨⟨xf_mt 437 (by decide +kernel) rfl, xf_mt 1 (by decide +kernel) rfl, by decide +kernel, by decide +kernel, by decide +kernel⟩, xf_mt 435 (by decide +kernel) rfl, xf_mt 436 (by decide +kernel) rfl⟩
theorem xq_RD_goOn : xf_vir xny_RD_goOn xnc_RD_goOn 1 none 0 := ⟨⟨xf_mt 441 (by decide +kernel) rfl, xf_mt 7 (by decide +kernel) rfl, by decide +kernel, by decide +kernel, by decide +kernel⟩, xf_mt 439 (by decide +kernel) rfl, xf_mt 440 (by decide +kernel) rfl⟩
theorem xq_RD_keepVersion : xf_vir xny_RD_keepVersion xnc_RD_keepVersion 1 none 0 := ⟨⟨xf_mt 445 (by decide +kernel) rfl, xf_mt 7 (by decide +kernel) rfl, by decide +kernel, by decide +kernel, by decide +kernel⟩, xf_mt 444 (by decide +kernel) rfl, xf_ms 14 (by decide +kernel) rfl⟩
theorem xq_ST_versionFor : xf_vir xny_ST_versionFor xnc_ST_versionFor 2 (some .int) 1 := ⟨⟨xf_mt 449 (by decide +kernel) rfl, xf_mt 3 (by decide +kernel) rfl, by decide +kernel, by decide +kernel, by decide +kernel⟩, xf_mt 447 (by decide +kernel) rfl, xf_mt 448 (by decide +kernel) rfl⟩
theorem xq_RD_lookInto : xf_vir xny_RD_lookInto xnc_RD_lookInto 4 none 2 := ⟨⟨xf_mt 454 (by decide +kernel) rfl, xf_mt 7 (by decide +kernel) rfl, by decide +kernel, by decide +kernel, by decide +kernel⟩, xf_mt 453 (by decide +kernel) rfl, xf_ms 15 (by decide +kernel) rfl⟩
theorem xq_RD_copyItem : xf_vir xny_RD_copyItem xnc_RD_copyItem 1 none 0 := ⟨⟨xf_mt 460 (by decide +kernel) rfl, xf_mt 7 (by decide +kernel) rfl, by decide +kernel, by decide +kernel, by decide +kernel⟩, xf_mt 459 (by decide +kernel) rfl, xf_ms 16 (by decide +kernel) rfl⟩
theorem xq_RD_checkVersion : xf_vir xny_RD_checkVersion xnc_RD_checkVersion 1 none 0 := ⟨⟨xf_mt 464 (by decide +kernel) rfl, xf_mt 7 (by decide +kernel) rfl, by decide +kernel, by decide +kernel, by decide +kernel⟩, xf_mt 463 (by decide +kernel) rfl, xf_ms 17 (by decide +kernel) rfl⟩
theorem xq_RD_end : xf_vir xny_RD_end xnc_RD_end 2 none 1 := ⟨⟨xf_mt 469 (by decide +kernel) rfl, xf_mt 7 (by decide +kernel) rfl, by decide +kernel, by decide +kernel, by decide +kernel⟩, xf_mt 468 (by decide +kernel) rfl, xf_ms 18 (by decide +kernel) rfl⟩
theorem xq_RD_readLocked : xf_vir xny_RD_readLocked xnc_RD_readLocked 2 none 0 := ⟨⟨xf_mt 473 (by decide +kernel) rfl, xf_mt 7 (by decide +kernel) rfl, by decide +kernel, by decide +kernel, by decide +kernel⟩, xf_mt 472 (by decide +kernel) rfl, xf_ms 19 (by decide +kernel) rfl⟩
theorem xq_SC_state : xf_vir xny_SC_state xnc_SC_state 2 (some .int) 1 := ⟨⟨xf_mt 479 (by decide +kernel) rfl, xf_mt 1 (by decide +kernel) rfl, by decide +kernel, by decide +kernel, by decide +kernel⟩, xf_mt 477 (by decide +kernel) rfl, xf_mt 478 (by decide +kernel) rfl⟩
theorem xq_SC_value : xf_vir xny_SC_value xnc_SC_value 2 (some .int) 1 := ⟨⟨xf_mt 483 (by decide +kernel) rfl, xf_mt 1 (by decide +kernel) rfl, by decide +kernel, by decide +kernel, by decide +kernel⟩, xf_mt 481 (by decide +kernel) rfl, xf_mt 482 (by decide +kernel) rfl⟩
theorem xq_SC_isHit : xf_vir xny_SC_isHit xnc_SC_isHit 2 (some .boolean) 1 := ⟨⟨xf_mt 487 (by decide +kernel) rfl, xf_mt 1 (by decide +kernel) rfl, by decide +kernel, by decide +kernel, by decide +kernel⟩, xf_mt 486 (by decide +kernel) rfl, xf_ms 20 (by decide +kernel) rfl⟩
theorem xq_SC_token : xf_vir xny_SC_token xnc_SC_token 2 (some .int) 1 := ⟨⟨xf_mt 491 (by decide +kernel) rfl, xf_mt 1 (by decide +kernel) rfl, by decide +kernel, by decide +kernel, by decide +kernel⟩, xf_mt 489 (by decide +kernel) rfl, xf_mt 490 (by decide +kernel) rfl⟩
theorem xq_SC_pass : xf_vir xny_SC_pass xnc_SC_pass 2 (some .boolean) 1 := ⟨⟨xf_mt 495 (by decide +kernel) rfl, xf_mt 1 (by decide +kernel) rfl, by decide +kernel, by decide +kernel, by decide +kernel⟩, xf_mt 493 (by decide +kernel) rfl, xf_mt 494 (by decide +kernel) rfl⟩
theorem xq_SC_where : xf_vir xny_SC_where xnc_SC_where 2 (some .int) 1 := ⟨⟨xf_mt 499 (by decide +kernel) rfl, xf_mt 1 (by decide +kernel) rfl, by decide +kernel, by decide +kernel, by decide +kernel⟩, xf_mt 497 (by decide +kernel) rfl, xf_mt 498 (by decide +kernel) rfl⟩
theorem xq_ST_find : xf_vir xny_ST_find xnc_ST_find 3 (some .int) 1 := ⟨⟨xf_mt 503 (by decide +kernel) rfl, xf_mt 3 (by decide +kernel) rfl, by decide +kernel, by decide +kernel, by decide +kernel⟩, xf_mt 501 (by decide +kernel) rfl, xf_mt 502 (by decide +kernel) rfl⟩
theorem xq_SC_at : xf_vir xny_SC_at xnc_SC_at 2 (some .int) 1 := ⟨⟨xf_mt 507 (by decide +kernel) rfl, xf_mt 1 (by decide +kernel) rfl, by decide +kernel, by decide +kernel, by decide +kernel⟩, xf_mt 505 (by decide +kernel) rfl, xf_mt 506 (by decide +kernel) rfl⟩
theorem xq_SC_item : xf_vir xny_SC_item xnc_SC_item 3 (some .int) 2 := ⟨⟨xf_mt 511 (by decide +kernel) rfl, xf_mt 1 (by decide +kernel) rfl, by decide +kernel, by decide +kernel, by decide +kernel⟩, xf_mt 509 (by decide +kernel) rfl, xf_mt 510 (by decide +kernel) rfl⟩
theorem xq_SC_isUsedItem : xf_vir xny_SC_isUsedItem xnc_SC_isUsedItem 2 (some .boolean) 1 := ⟨⟨xf_mt 515 (by decide +kernel) rfl, xf_mt 1 (by decide +kernel) rfl, by decide +kernel, by decide +kernel, by decide +kernel⟩, xf_mt 514 (by decide +kernel) rfl, xf_ms 21 (by decide +kernel) rfl⟩
theorem xq_SC_used : xf_vir xny_SC_used xnc_SC_used 2 (some .boolean) 1 := ⟨⟨xf_mt 519 (by decide +kernel) rfl, xf_mt 1 (by decide +kernel) rfl, by decide +kernel, by decide +kernel, by decide +kernel⟩, xf_mt 517 (by decide +kernel) rfl, xf_mt 518 (by decide +kernel) rfl⟩
theorem xq_SC_version : xf_vir xny_SC_version xnc_SC_version 2 (some .int) 1 := ⟨⟨xf_mt 523 (by decide +kernel) rfl, xf_mt 1 (by decide +kernel) rfl, by decide +kernel, by decide +kernel, by decide +kernel⟩, xf_mt 521 (by decide +kernel) rfl, xf_mt 522 (by decide +kernel) rfl⟩
theorem xq_SC_hash : xf_vir xny_SC_hash xnc_SC_hash 2 (some .int) 1 := ⟨⟨xf_mt 527 (by decide +kernel) rfl, xf_mt 1 (by decide +kernel) rfl, by decide +kernel, by decide +kernel, by decide +kernel⟩, xf_mt 525 (by decide +kernel) rfl, xf_mt 526 (by decide +kernel) rfl⟩
theorem xq_SC_count : xf_vir xny_SC_count xnc_SC_count 2 (some .int) 1 := ⟨⟨xf_mt 533 (by decide +kernel) rfl, xf_mt 1 (by decide +kernel) rfl, by decide +kernel, by decide +kernel, by decide +kernel⟩, xf_mt 531 (by decide +kernel) rfl, xf_mt 532 (by decide +kernel) rfl⟩
theorem xq_LW_cell : xf_sta xny_LW_cell xnc_LW_cell 2 (some .int) 2 := ⟨⟨xf_mt 536 (by decide +kernel) rfl, xf_mt 0 (by decide +kernel) rfl, by decide +kernel, by decide +kernel, by decide +kernel⟩, xf_mt 535 (by decide +kernel) rfl⟩
theorem xq_MO_hash : xf_vir xny_MO_hash xnc_MO_hash 2 (some .int) 1 := ⟨⟨xf_mt 661 (by decide +kernel) rfl, xf_mt 8 (by decide +kernel) rfl, by decide +kernel, by decide +kernel, by decide +kernel⟩, xf_mt 659 (by decide +kernel) rfl, xf_mt 660 (by decide +kernel) rfl⟩
theorem xq_MO_bucket : xf_sta xny_MO_bucket xnc_MO_bucket 3 (some .int) 2 := ⟨⟨xf_mt 664 (by decide +kernel) rfl, xf_mt 8 (by decide +kernel) rfl, by decide +kernel, by decide +kernel, by decide +kernel⟩, xf_mt 663 (by decide +kernel) rfl⟩
theorem xq_MO_mix : xf_sta xny_MO_mix xnc_MO_mix 1 (some .int) 1 := ⟨⟨xf_mt 667 (by decide +kernel) rfl, xf_mt 8 (by decide +kernel) rfl, by decide +kernel, by decide +kernel, by decide +kernel⟩, xf_mt 666 (by decide +kernel) rfl⟩
theorem xq_MO_tag : xf_sta xny_MO_tag xnc_MO_tag 1 (some .int) 1 := ⟨⟨xf_mt 671 (by decide +kernel) rfl, xf_mt 8 (by decide +kernel) rfl, by decide +kernel, by decide +kernel, by decide +kernel⟩, xf_mt 670 (by decide +kernel) rfl⟩
theorem xq_MO_stripe : xf_sta xny_MO_stripe xnc_MO_stripe 1 (some .int) 1 := ⟨⟨xf_mt 674 (by decide +kernel) rfl, xf_mt 8 (by decide +kernel) rfl, by decide +kernel, by decide +kernel, by decide +kernel⟩, xf_mt 673 (by decide +kernel) rfl⟩
theorem xq_MO_where : xf_vir xny_MO_where xnc_MO_where 3 (some .int) 1 := ⟨⟨xf_mt 678 (by decide +kernel) rfl, xf_mt 8 (by decide +kernel) rfl, by decide +kernel, by decide +kernel, by decide +kernel⟩, xf_mt 676 (by decide +kernel) rfl, xf_mt 677 (by decide +kernel) rfl⟩
theorem xq_MO_search : xf_vir xny_MO_search xnc_MO_search 6 (some .int) 2 := ⟨⟨xf_mt 682 (by decide +kernel) rfl, xf_mt 8 (by decide +kernel) rfl, by decide +kernel, by decide +kernel, by decide +kernel⟩, xf_mt 681 (by decide +kernel) rfl, xf_ms 22 (by decide +kernel) rfl⟩
theorem xq_MO_write : xf_vir xny_MO_write xnc_MO_write 6 (some .boolean) 5 := ⟨⟨xf_mt 686 (by decide +kernel) rfl, xf_mt 8 (by decide +kernel) rfl, by decide +kernel, by decide +kernel, by decide +kernel⟩, xf_mt 684 (by decide +kernel) rfl, xf_mt 685 (by decide +kernel) rfl⟩
theorem xq_MO_work : xf_vir xny_MO_work xnc_MO_work 3 (some .int) 1 := ⟨⟨xf_mt 690 (by decide +kernel) rfl, xf_mt 8 (by decide +kernel) rfl, by decide +kernel, by decide +kernel, by decide +kernel⟩, xf_mt 688 (by decide +kernel) rfl, xf_mt 689 (by decide +kernel) rfl⟩
theorem xq_MO_one : xf_vir xny_MO_one xnc_MO_one 1 none 0 := ⟨⟨xf_mt 694 (by decide +kernel) rfl, xf_mt 8 (by decide +kernel) rfl, by decide +kernel, by decide +kernel, by decide +kernel⟩, xf_mt 693 (by decide +kernel) rfl, xf_ms 23 (by decide +kernel) rfl⟩
theorem xq_MO_begin : xf_vir xny_MO_begin xnc_MO_begin 3 none 0 := ⟨⟨xf_mt 698 (by decide +kernel) rfl, xf_mt 8 (by decide +kernel) rfl, by decide +kernel, by decide +kernel, by decide +kernel⟩, xf_mt 697 (by decide +kernel) rfl, xf_ms 24 (by decide +kernel) rfl⟩
theorem xq_MO_lookBoth : xf_vir xny_MO_lookBoth xnc_MO_lookBoth 3 (some .int) 1 := ⟨⟨xf_mt 702 (by decide +kernel) rfl, xf_mt 8 (by decide +kernel) rfl, by decide +kernel, by decide +kernel, by decide +kernel⟩, xf_mt 701 (by decide +kernel) rfl, xf_ms 25 (by decide +kernel) rfl⟩
theorem xq_MO_look : xf_vir xny_MO_look xnc_MO_look 7 (some .int) 2 := ⟨⟨xf_mt 706 (by decide +kernel) rfl, xf_mt 8 (by decide +kernel) rfl, by decide +kernel, by decide +kernel, by decide +kernel⟩, xf_mt 705 (by decide +kernel) rfl, xf_ms 26 (by decide +kernel) rfl⟩
theorem xq_MO_over : xf_vir xny_MO_over xnc_MO_over 2 (some .boolean) 1 := ⟨⟨xf_mt 710 (by decide +kernel) rfl, xf_mt 8 (by decide +kernel) rfl, by decide +kernel, by decide +kernel, by decide +kernel⟩, xf_mt 709 (by decide +kernel) rfl, xf_ms 27 (by decide +kernel) rfl⟩
theorem xq_MO_remove : xf_vir xny_MO_remove xnc_MO_remove 3 none 1 := ⟨⟨xf_mt 714 (by decide +kernel) rfl, xf_mt 8 (by decide +kernel) rfl, by decide +kernel, by decide +kernel, by decide +kernel⟩, xf_mt 713 (by decide +kernel) rfl, xf_ms 28 (by decide +kernel) rfl⟩
theorem xq_MO_finish : xf_vir xny_MO_finish xnc_MO_finish 2 none 1 := ⟨⟨xf_mt 718 (by decide +kernel) rfl, xf_mt 8 (by decide +kernel) rfl, by decide +kernel, by decide +kernel, by decide +kernel⟩, xf_mt 717 (by decide +kernel) rfl, xf_ms 29 (by decide +kernel) rfl⟩
theorem xq_MO_many : xf_vir xny_MO_many xnc_MO_many 3 (some .int) 0 := ⟨⟨xf_mt 722 (by decide +kernel) rfl, xf_mt 8 (by decide +kernel) rfl, by decide +kernel, by decide +kernel, by decide +kernel⟩, xf_mt 721 (by decide +kernel) rfl, xf_ms 30 (by decide +kernel) rfl⟩
theorem xq_MO_stamp : xf_vir xny_MO_stamp xnc_MO_stamp 2 none 1 := ⟨⟨xf_mt 726 (by decide +kernel) rfl, xf_mt 8 (by decide +kernel) rfl, by decide +kernel, by decide +kernel, by decide +kernel⟩, xf_mt 725 (by decide +kernel) rfl, xf_ms 31 (by decide +kernel) rfl⟩
theorem xq_MO_evict : xf_vir xny_MO_evict xnc_MO_evict 2 none 0 := ⟨⟨xf_mt 730 (by decide +kernel) rfl, xf_mt 8 (by decide +kernel) rfl, by decide +kernel, by decide +kernel, by decide +kernel⟩, xf_mt 729 (by decide +kernel) rfl, xf_ms 32 (by decide +kernel) rfl⟩
theorem xq_MO_seek : xf_vir xny_MO_seek xnc_MO_seek 4 none 0 := ⟨⟨xf_mt 734 (by decide +kernel) rfl, xf_mt 8 (by decide +kernel) rfl, by decide +kernel, by decide +kernel, by decide +kernel⟩, xf_mt 733 (by decide +kernel) rfl, xf_ms 33 (by decide +kernel) rfl⟩
theorem xq_MO_leads : xf_vir xny_MO_leads xnc_MO_leads 9 (some .boolean) 2 := ⟨⟨xf_mt 738 (by decide +kernel) rfl, xf_mt 8 (by decide +kernel) rfl, by decide +kernel, by decide +kernel, by decide +kernel⟩, xf_mt 737 (by decide +kernel) rfl, xf_ms 34 (by decide +kernel) rfl⟩
theorem xq_MO_move : xf_vir xny_MO_move xnc_MO_move 2 none 0 := ⟨⟨xf_mt 742 (by decide +kernel) rfl, xf_mt 8 (by decide +kernel) rfl, by decide +kernel, by decide +kernel, by decide +kernel⟩, xf_mt 741 (by decide +kernel) rfl, xf_ms 35 (by decide +kernel) rfl⟩
theorem xq_MO_enter : xf_vir xny_MO_enter xnc_MO_enter 2 none 0 := ⟨⟨xf_mt 746 (by decide +kernel) rfl, xf_mt 8 (by decide +kernel) rfl, by decide +kernel, by decide +kernel, by decide +kernel⟩, xf_mt 745 (by decide +kernel) rfl, xf_ms 36 (by decide +kernel) rfl⟩
theorem xq_MO_outcome : xf_vir xny_MO_outcome xnc_MO_outcome 1 (some .int) 0 := ⟨⟨xf_mt 750 (by decide +kernel) rfl, xf_mt 8 (by decide +kernel) rfl, by decide +kernel, by decide +kernel, by decide +kernel⟩, xf_mt 748 (by decide +kernel) rfl, xf_mt 749 (by decide +kernel) rfl⟩
theorem xq_MO_get : xf_vir xny_MO_get xnc_MO_get 3 (some .boolean) 2 := ⟨⟨xf_mt 754 (by decide +kernel) rfl, xf_mt 8 (by decide +kernel) rfl, by decide +kernel, by decide +kernel, by decide +kernel⟩, xf_mt 752 (by decide +kernel) rfl, xf_mt 753 (by decide +kernel) rfl⟩
theorem xq_MO_reader : xf_sta xny_MO_reader xnc_MO_reader 1 (some .boolean) 1 := ⟨⟨xf_mt 757 (by decide +kernel) rfl, xf_mt 8 (by decide +kernel) rfl, by decide +kernel, by decide +kernel, by decide +kernel⟩, xf_mt 756 (by decide +kernel) rfl⟩
theorem xq_MO_reading : xf_vir xny_MO_reading xnc_MO_reading 2 (some .boolean) 1 := ⟨⟨xf_mt 761 (by decide +kernel) rfl, xf_mt 8 (by decide +kernel) rfl, by decide +kernel, by decide +kernel, by decide +kernel⟩, xf_mt 760 (by decide +kernel) rfl, xf_ms 37 (by decide +kernel) rfl⟩
theorem xq_MO_step : xf_vir xny_MO_step xnc_MO_step 3 (some .int) 1 := ⟨⟨xf_mt 765 (by decide +kernel) rfl, xf_mt 8 (by decide +kernel) rfl, by decide +kernel, by decide +kernel, by decide +kernel⟩, xf_mt 763 (by decide +kernel) rfl, xf_mt 764 (by decide +kernel) rfl⟩
theorem xq_MO_keep : xf_vir xny_MO_keep xnc_MO_keep 3 none 2 := ⟨⟨xf_mt 769 (by decide +kernel) rfl, xf_mt 8 (by decide +kernel) rfl, by decide +kernel, by decide +kernel, by decide +kernel⟩, xf_mt 768 (by decide +kernel) rfl, xf_ms 38 (by decide +kernel) rfl⟩
theorem xq_MO_find : xf_vir xny_MO_find xnc_MO_find 4 none 2 := ⟨⟨xf_mt 773 (by decide +kernel) rfl, xf_mt 8 (by decide +kernel) rfl, by decide +kernel, by decide +kernel, by decide +kernel⟩, xf_mt 772 (by decide +kernel) rfl, xf_ms 39 (by decide +kernel) rfl⟩
theorem xq_MO_copy : xf_vir xny_MO_copy xnc_MO_copy 3 none 1 := ⟨⟨xf_mt 777 (by decide +kernel) rfl, xf_mt 8 (by decide +kernel) rfl, by decide +kernel, by decide +kernel, by decide +kernel⟩, xf_mt 776 (by decide +kernel) rfl, xf_ms 40 (by decide +kernel) rfl⟩
theorem xq_MO_check : xf_vir xny_MO_check xnc_MO_check 3 none 1 := ⟨⟨xf_mt 781 (by decide +kernel) rfl, xf_mt 8 (by decide +kernel) rfl, by decide +kernel, by decide +kernel, by decide +kernel⟩, xf_mt 780 (by decide +kernel) rfl, xf_ms 41 (by decide +kernel) rfl⟩
theorem xq_MO_locked : xf_vir xny_MO_locked xnc_MO_locked 5 none 1 := ⟨⟨xf_mt 785 (by decide +kernel) rfl, xf_mt 8 (by decide +kernel) rfl, by decide +kernel, by decide +kernel, by decide +kernel⟩, xf_mt 784 (by decide +kernel) rfl, xf_ms 42 (by decide +kernel) rfl⟩
theorem xq_MO_state : xf_vir xny_MO_state xnc_MO_state 2 (some .int) 1 := ⟨⟨xf_mt 789 (by decide +kernel) rfl, xf_mt 8 (by decide +kernel) rfl, by decide +kernel, by decide +kernel, by decide +kernel⟩, xf_mt 787 (by decide +kernel) rfl, xf_mt 788 (by decide +kernel) rfl⟩
theorem xq_MO_value : xf_vir xny_MO_value xnc_MO_value 2 (some .int) 1 := ⟨⟨xf_mt 793 (by decide +kernel) rfl, xf_mt 8 (by decide +kernel) rfl, by decide +kernel, by decide +kernel, by decide +kernel⟩, xf_mt 791 (by decide +kernel) rfl, xf_mt 792 (by decide +kernel) rfl⟩
theorem xq_MO_token : xf_vir xny_MO_token xnc_MO_token 2 (some .int) 1 := ⟨⟨xf_mt 797 (by decide +kernel) rfl, xf_mt 8 (by decide +kernel) rfl, by decide +kernel, by decide +kernel, by decide +kernel⟩, xf_mt 795 (by decide +kernel) rfl, xf_mt 796 (by decide +kernel) rfl⟩
theorem xq_MO_pass : xf_vir xny_MO_pass xnc_MO_pass 2 (some .boolean) 1 := ⟨⟨xf_mt 801 (by decide +kernel) rfl, xf_mt 8 (by decide +kernel) rfl, by decide +kernel, by decide +kernel, by decide +kernel⟩, xf_mt 799 (by decide +kernel) rfl, xf_mt 800 (by decide +kernel) rfl⟩
theorem xq_MO_at : xf_vir xny_MO_at xnc_MO_at 2 (some .int) 1 := ⟨⟨xf_mt 805 (by decide +kernel) rfl, xf_mt 8 (by decide +kernel) rfl, by decide +kernel, by decide +kernel, by decide +kernel⟩, xf_mt 803 (by decide +kernel) rfl, xf_mt 804 (by decide +kernel) rfl⟩
theorem xq_MO_used : xf_vir xny_MO_used xnc_MO_used 2 (some .boolean) 1 := ⟨⟨xf_mt 809 (by decide +kernel) rfl, xf_mt 8 (by decide +kernel) rfl, by decide +kernel, by decide +kernel, by decide +kernel⟩, xf_mt 807 (by decide +kernel) rfl, xf_mt 808 (by decide +kernel) rfl⟩
theorem xq_MO_item : xf_vir xny_MO_item xnc_MO_item 3 (some .int) 2 := ⟨⟨xf_mt 813 (by decide +kernel) rfl, xf_mt 8 (by decide +kernel) rfl, by decide +kernel, by decide +kernel, by decide +kernel⟩, xf_mt 811 (by decide +kernel) rfl, xf_mt 812 (by decide +kernel) rfl⟩
theorem xq_MO_version : xf_vir xny_MO_version xnc_MO_version 2 (some .int) 1 := ⟨⟨xf_mt 817 (by decide +kernel) rfl, xf_mt 8 (by decide +kernel) rfl, by decide +kernel, by decide +kernel, by decide +kernel⟩, xf_mt 815 (by decide +kernel) rfl, xf_mt 816 (by decide +kernel) rfl⟩
theorem xq_MO_count : xf_vir xny_MO_count xnc_MO_count 2 (some .int) 1 := ⟨⟨xf_mt 821 (by decide +kernel) rfl, xf_mt 8 (by decide +kernel) rfl, by decide +kernel, by decide +kernel, by decide +kernel⟩, xf_mt 819 (by decide +kernel) rfl, xf_mt 820 (by decide +kernel) rfl⟩
end
section
/-! The worlds: the class's 21 cells and the reference's 18, at addresses by number; what holds of them. Printed by wip/gen/mkworlds.py. -/
abbrev xw_T : Type := Launch × va_G × (Nat → Nat) × ClassId × ClassId × ClassId × Nat × Nat
def xw_l (P : xw_T) : Launch := P.1
def xw_D (P : xw_T) : va_G := P.2.1
def xw_a (P : xw_T) : Nat → Nat := P.2.2.1
def xw_cI (P : xw_T) : ClassId := P.2.2.2.1
def xw_cZ (P : xw_T) : ClassId := P.2.2.2.2.1
def xw_cR (P : xw_T) : ClassId := P.2.2.2.2.2.1
def xw_n (P : xw_T) : Nat := P.2.2.2.2.2.2.1
def xw_w (P : xw_T) : Nat := P.2.2.2.2.2.2.2
abbrev xw_ty (P : xw_T) : List (ClassId × FieldType) := [(xw_cI P, .int), (xw_cZ P, .boolean), (xw_cR P, .object xnR_RD)]
def xw_len (P : xw_T) : Nat → Nat
  | 5 => 8 * xw_w P
  | 6 => xw_n P
  | 7 => xw_n P
  | 8 => xw_n P
  | 9 => xw_n P
  | 10 => xw_n P
  | 11 => xw_n P
  | 12 => 4
  | 14 => 5
  | 15 => 8 * xw_w P
  | 16 => 8 * xw_w P
  | 17 => 8 * xw_w P
  | 101 => 32
  | 102 => 32
  | 103 => 32
  | 104 => 32
  | 105 => 32
  | 106 => 32
  | 107 => 32
  | 108 => 4
  | 109 => 5
  | 110 => 3
  | 111 => 3
  | 112 => 3
  | 113 => 3
  | 114 => 3
  | 115 => 3
  | 116 => 3
  | 117 => 3
  | _ => 0
def xw_isI : Nat → Bool
  | 5 => true
  | 6 => true
  | 7 => true
  | 8 => true
  | 9 => true
  | 12 => true
  | 14 => true
  | 15 => true
  | 16 => true
  | 17 => true
  | 101 => true
  | 103 => true
  | 104 => true
  | 105 => true
  | 106 => true
  | 108 => true
  | 109 => true
  | 110 => true
  | 111 => true
  | 112 => true
  | 113 => true
  | 114 => true
  | 115 => true
  | 116 => true
  | 117 => true
  | _ => false
def xw_isZ : Nat → Bool
  | 10 => true
  | 11 => true
  | 102 => true
  | 107 => true
  | _ => false
def xw_rd (P : xw_T) (σ : xf_T) (r : Nat) : Nat × va_E := (xw_a P (18 + r), .inr (5, [.ref (xw_a P 2), .ref (xw_a P 3), .ref (xw_a P 1), .int (σ.1 (24 + 8 * r)), .int (σ.1 (24 + 8 * r + 1)), .int (σ.1 (24 + 8 * r + 2)), .int (σ.1 (24 + 8 * r + 3)), .int (σ.1 (24 + 8 * r + 4)), .int (σ.1 (24 + 8 * r + 5)), .int (σ.1 (24 + 8 * r + 6)), .int (σ.1 (24 + 8 * r + 7))]))
def xw_W (P : xw_T) : xf_S → va_W
  | (σ, τ) => [(xw_a P 0, .inr (0, [.ref (xw_a P 1), .ref (xw_a P 2), .ref (xw_a P 3), .ref (xw_a P 4)])),
    (xw_a P 1, .inr (1, [.int (σ.1 0), .int (σ.1 1), .int (σ.1 2), .int (σ.1 3), .int (σ.1 4), .int (σ.1 5)])),
    (xw_a P 2, .inr (2, [.ref (xw_a P 1), .int (nI (xw_n P)), .int (nI (xw_w P)), .ref (xw_a P 5), .ref (xw_a P 6), .ref (xw_a P 7), .ref (xw_a P 8), .ref (xw_a P 9), .ref (xw_a P 10), .ref (xw_a P 11), .ref (xw_a P 12), .int (σ.1 6), .int (σ.1 7), .int (σ.1 8)])),
    (xw_a P 3, .inr (3, [.ref (xw_a P 2), .ref (xw_a P 1), .ref (xw_a P 13), .int (σ.1 9), .int (σ.1 10), .int (σ.1 11), .int (σ.1 12), .int (σ.1 13), .int (σ.1 14), .int (σ.1 15), .int (σ.1 16), .int (σ.1 17), .int (σ.1 18)])),
    (xw_a P 4, .inl (xw_cR P, 3, .inr (.inr (.inr (.inr (fun k => some (xw_a P (18 + k)))))))),
    (xw_a P 5, .inl (xw_cI P, 8 * xw_w P, .inl (σ.2 5))),
    (xw_a P 6, .inl (xw_cI P, xw_n P, .inl (σ.2 6))),
    (xw_a P 7, .inl (xw_cI P, xw_n P, .inl (σ.2 7))),
    (xw_a P 8, .inl (xw_cI P, xw_n P, .inl (σ.2 8))),
    (xw_a P 9, .inl (xw_cI P, xw_n P, .inl (σ.2 9))),
    (xw_a P 10, .inl (xw_cZ P, xw_n P, .inl (σ.2 10))),
    (xw_a P 11, .inl (xw_cZ P, xw_n P, .inl (σ.2 11))),
    (xw_a P 12, .inl (xw_cI P, 4, .inl (σ.2 12))),
    (xw_a P 13, .inr (4, [.ref (xw_a P 2), .ref (xw_a P 14), .int (σ.1 19), .ref (xw_a P 15), .ref (xw_a P 16), .ref (xw_a P 17), .int (σ.1 20)])),
    (xw_a P 14, .inl (xw_cI P, 5, .inl (σ.2 14))),
    (xw_a P 15, .inl (xw_cI P, 8 * xw_w P, .inl (σ.2 15))),
    (xw_a P 16, .inl (xw_cI P, 8 * xw_w P, .inl (σ.2 16))),
    (xw_a P 17, .inl (xw_cI P, 8 * xw_w P, .inl (σ.2 17))),
    xw_rd P σ 0,
    xw_rd P σ 1,
    xw_rd P σ 2,
    (xw_a P 100, .inr (6, [.int (nI (xw_n P)), .int (nI (xw_w P)), .int (τ.1 0), .int (τ.1 1), .int (τ.1 2), .ref (xw_a P 101), .ref (xw_a P 102), .ref (xw_a P 103), .ref (xw_a P 104), .ref (xw_a P 105), .ref (xw_a P 106), .ref (xw_a P 107), .ref (xw_a P 108), .int (τ.1 3), .int (τ.1 4), .int (τ.1 5), .int (τ.1 6), .int (τ.1 7), .int (τ.1 8), .int (τ.1 9), .int (τ.1 10), .int (τ.1 11), .int (τ.1 12), .ref (xw_a P 109), .ref (xw_a P 110), .ref (xw_a P 111), .ref (xw_a P 112), .ref (xw_a P 113), .ref (xw_a P 114), .ref (xw_a P 115), .ref (xw_a P 116), .ref (xw_a P 117), .int (τ.1 13), .int (τ.1 14), .int (τ.1 15), .int (τ.1 16), .int (τ.1 17), .int (τ.1 18)])),
    (xw_a P 101, .inl (xw_cI P, 32, .inl (τ.2 1))),
    (xw_a P 102, .inl (xw_cZ P, 32, .inl (τ.2 2))),
    (xw_a P 103, .inl (xw_cI P, 32, .inl (τ.2 3))),
    (xw_a P 104, .inl (xw_cI P, 32, .inl (τ.2 4))),
    (xw_a P 105, .inl (xw_cI P, 32, .inl (τ.2 5))),
    (xw_a P 106, .inl (xw_cI P, 32, .inl (τ.2 6))),
    (xw_a P 107, .inl (xw_cZ P, 32, .inl (τ.2 7))),
    (xw_a P 108, .inl (xw_cI P, 4, .inl (τ.2 8))),
    (xw_a P 109, .inl (xw_cI P, 5, .inl (τ.2 9))),
    (xw_a P 110, .inl (xw_cI P, 3, .inl (τ.2 10))),
    (xw_a P 111, .inl (xw_cI P, 3, .inl (τ.2 11))),
    (xw_a P 112, .inl (xw_cI P, 3, .inl (τ.2 12))),
    (xw_a P 113, .inl (xw_cI P, 3, .inl (τ.2 13))),
    (xw_a P 114, .inl (xw_cI P, 3, .inl (τ.2 14))),
    (xw_a P 115, .inl (xw_cI P, 3, .inl (τ.2 15))),
    (xw_a P 116, .inl (xw_cI P, 3, .inl (τ.2 16))),
    (xw_a P 117, .inl (xw_cI P, 3, .inl (τ.2 17)))]
theorem xrX_SC {P : xw_T} {σ τ : xf_T} : xf_rcv (xw_W P) (σ, τ) (xw_a P 0) xnR_SC := ⟨0, 0, _, _, rfl, rfl, rfl⟩
theorem xrX_TA {P : xw_T} {σ τ : xf_T} : xf_rcv (xw_W P) (σ, τ) (xw_a P 1) xnR_TA := ⟨1, 1, _, _, rfl, rfl, rfl⟩
theorem xrX_ST {P : xw_T} {σ τ : xf_T} : xf_rcv (xw_W P) (σ, τ) (xw_a P 2) xnR_ST := ⟨2, 2, _, _, rfl, rfl, rfl⟩
theorem xrX_WR {P : xw_T} {σ τ : xf_T} : xf_rcv (xw_W P) (σ, τ) (xw_a P 3) xnR_WR := ⟨3, 3, _, _, rfl, rfl, rfl⟩
theorem xrX_PA {P : xw_T} {σ τ : xf_T} : xf_rcv (xw_W P) (σ, τ) (xw_a P 13) xnR_PA := ⟨13, 4, _, _, rfl, rfl, rfl⟩
theorem xrM_MO {P : xw_T} {σ τ : xf_T} : xf_rcv (xw_W P) (σ, τ) (xw_a P 100) xnR_MO := ⟨21, 6, _, _, rfl, rfl, rfl⟩
theorem xw_at_rd {P : xw_T} {σ τ : xf_T} {r : Nat} (hr : r < 3) : (xw_W P (σ, τ))[18 + r]? = some (xw_rd P σ r) := by
  have h9 : r = 0 ∨ r = 1 ∨ r = 2 := by omega
  rcases h9 with rfl | rfl | rfl <;> rfl
theorem xrX_RD {P : xw_T} {σ τ : xf_T} {r : Nat} (hr : r < 3) : xf_rcv (xw_W P) (σ, τ) (xw_a P (18 + r)) xnR_RD := ⟨18 + r, 5, _, _, xw_at_rd hr, rfl, rfl⟩
section XWF
variable {X : xf_C} {l : Launch} {own : String} {cc : ByteArray} {nL fr lo : Nat} {P : xw_T} {D : va_G} {tys : List (ClassId × FieldType)} {pc : Nat} {L : List (Option Value)} {st : List Value} {σ τ : xf_T} {idx : Nat}
theorem xg_SC_tally (hX : xf_ok X l own cc nL fr lo (xw_W P) D tys) (np : Nat) (hp : pc + 3 = np) (hl : Cond.fieldLink own idx (xnT_SC 0).1 (xnT_SC 0).2.1 (xnT_SC 0).2.2.1 ∈ xf_GW) (hd : decode cc pc = .ok (.getfield idx, 3)) (kk : xf_V X np L (.ref (xw_a P 1) :: st) (σ, τ)) : xf_V X pc L (.ref (xw_a P 0) :: st) (σ, τ) := xf_get hX np hp xin_SC 0 rfl rfl 0 (by decide) hl rfl hd kk
theorem xg_SC_store (hX : xf_ok X l own cc nL fr lo (xw_W P) D tys) (np : Nat) (hp : pc + 3 = np) (hl : Cond.fieldLink own idx (xnT_SC 1).1 (xnT_SC 1).2.1 (xnT_SC 1).2.2.1 ∈ xf_GW) (hd : decode cc pc = .ok (.getfield idx, 3)) (kk : xf_V X np L (.ref (xw_a P 2) :: st) (σ, τ)) : xf_V X pc L (.ref (xw_a P 0) :: st) (σ, τ) := xf_get hX np hp xin_SC 0 rfl rfl 1 (by decide) hl rfl hd kk
theorem xg_SC_writer (hX : xf_ok X l own cc nL fr lo (xw_W P) D tys) (np : Nat) (hp : pc + 3 = np) (hl : Cond.fieldLink own idx (xnT_SC 2).1 (xnT_SC 2).2.1 (xnT_SC 2).2.2.1 ∈ xf_GW) (hd : decode cc pc = .ok (.getfield idx, 3)) (kk : xf_V X np L (.ref (xw_a P 3) :: st) (σ, τ)) : xf_V X pc L (.ref (xw_a P 0) :: st) (σ, τ) := xf_get hX np hp xin_SC 0 rfl rfl 2 (by decide) hl rfl hd kk
theorem xg_SC_readers (hX : xf_ok X l own cc nL fr lo (xw_W P) D tys) (np : Nat) (hp : pc + 3 = np) (hl : Cond.fieldLink own idx (xnT_SC 3).1 (xnT_SC 3).2.1 (xnT_SC 3).2.2.1 ∈ xf_GW) (hd : decode cc pc = .ok (.getfield idx, 3)) (kk : xf_V X np L (.ref (xw_a P 4) :: st) (σ, τ)) : xf_V X pc L (.ref (xw_a P 0) :: st) (σ, τ) := xf_get hX np hp xin_SC 0 rfl rfl 3 (by decide) hl rfl hd kk
theorem xg_TA_evictions (hX : xf_ok X l own cc nL fr lo (xw_W P) D tys) (np : Nat) (hp : pc + 3 = np) (hl : Cond.fieldLink own idx (xnT_TA 0).1 (xnT_TA 0).2.1 (xnT_TA 0).2.2.1 ∈ xf_GW) (hd : decode cc pc = .ok (.getfield idx, 3)) (kk : xf_V X np L (.int (σ.1 0) :: st) (σ, τ)) : xf_V X pc L (.ref (xw_a P 1) :: st) (σ, τ) := xf_get hX np hp xin_TA 1 rfl rfl 0 (by decide) hl rfl hd kk
theorem xp_TA_evictions (hX : xf_ok X l own cc nL fr lo (xw_W P) D tys) (np : Nat) (hp : pc + 3 = np) {v : Int32} (hl : Cond.fieldLink own idx (xnT_TA 0).1 (xnT_TA 0).2.1 (xnT_TA 0).2.2.1 ∈ xf_GW) (hd : decode cc pc = .ok (.putfield idx, 3)) (kk : xf_V X np L st (xf_I σ 0 v, τ)) : xf_V X pc L (.int v :: .ref (xw_a P 1) :: st) (σ, τ) := xf_put hX np hp xin_TA xnK_TA xnO_TA xnM_TA 1 rfl rfl 0 (by decide) hl rfl (by decide +kernel) (Nat.le_of_ble_eq_true rfl) (σ' := (xf_I σ 0 v, τ)) rfl hd kk
theorem xg_TA_moves (hX : xf_ok X l own cc nL fr lo (xw_W P) D tys) (np : Nat) (hp : pc + 3 = np) (hl : Cond.fieldLink own idx (xnT_TA 1).1 (xnT_TA 1).2.1 (xnT_TA 1).2.2.1 ∈ xf_GW) (hd : decode cc pc = .ok (.getfield idx, 3)) (kk : xf_V X np L (.int (σ.1 1) :: st) (σ, τ)) : xf_V X pc L (.ref (xw_a P 1) :: st) (σ, τ) := xf_get hX np hp xin_TA 1 rfl rfl 1 (by decide) hl rfl hd kk
theorem xp_TA_moves (hX : xf_ok X l own cc nL fr lo (xw_W P) D tys) (np : Nat) (hp : pc + 3 = np) {v : Int32} (hl : Cond.fieldLink own idx (xnT_TA 1).1 (xnT_TA 1).2.1 (xnT_TA 1).2.2.1 ∈ xf_GW) (hd : decode cc pc = .ok (.putfield idx, 3)) (kk : xf_V X np L st (xf_I σ 1 v, τ)) : xf_V X pc L (.int v :: .ref (xw_a P 1) :: st) (σ, τ) := xf_put hX np hp xin_TA xnK_TA xnO_TA xnM_TA 1 rfl rfl 1 (by decide) hl rfl (by decide +kernel) (Nat.le_of_ble_eq_true rfl) (σ' := (xf_I σ 1 v, τ)) rfl hd kk
theorem xg_TA_retries (hX : xf_ok X l own cc nL fr lo (xw_W P) D tys) (np : Nat) (hp : pc + 3 = np) (hl : Cond.fieldLink own idx (xnT_TA 2).1 (xnT_TA 2).2.1 (xnT_TA 2).2.2.1 ∈ xf_GW) (hd : decode cc pc = .ok (.getfield idx, 3)) (kk : xf_V X np L (.int (σ.1 2) :: st) (σ, τ)) : xf_V X pc L (.ref (xw_a P 1) :: st) (σ, τ) := xf_get hX np hp xin_TA 1 rfl rfl 2 (by decide) hl rfl hd kk
theorem xp_TA_retries (hX : xf_ok X l own cc nL fr lo (xw_W P) D tys) (np : Nat) (hp : pc + 3 = np) {v : Int32} (hl : Cond.fieldLink own idx (xnT_TA 2).1 (xnT_TA 2).2.1 (xnT_TA 2).2.2.1 ∈ xf_GW) (hd : decode cc pc = .ok (.putfield idx, 3)) (kk : xf_V X np L st (xf_I σ 2 v, τ)) : xf_V X pc L (.int v :: .ref (xw_a P 1) :: st) (σ, τ) := xf_put hX np hp xin_TA xnK_TA xnO_TA xnM_TA 1 rfl rfl 2 (by decide) hl rfl (by decide +kernel) (Nat.le_of_ble_eq_true rfl) (σ' := (xf_I σ 2 v, τ)) rfl hd kk
theorem xg_TA_waits (hX : xf_ok X l own cc nL fr lo (xw_W P) D tys) (np : Nat) (hp : pc + 3 = np) (hl : Cond.fieldLink own idx (xnT_TA 3).1 (xnT_TA 3).2.1 (xnT_TA 3).2.2.1 ∈ xf_GW) (hd : decode cc pc = .ok (.getfield idx, 3)) (kk : xf_V X np L (.int (σ.1 3) :: st) (σ, τ)) : xf_V X pc L (.ref (xw_a P 1) :: st) (σ, τ) := xf_get hX np hp xin_TA 1 rfl rfl 3 (by decide) hl rfl hd kk
theorem xp_TA_waits (hX : xf_ok X l own cc nL fr lo (xw_W P) D tys) (np : Nat) (hp : pc + 3 = np) {v : Int32} (hl : Cond.fieldLink own idx (xnT_TA 3).1 (xnT_TA 3).2.1 (xnT_TA 3).2.2.1 ∈ xf_GW) (hd : decode cc pc = .ok (.putfield idx, 3)) (kk : xf_V X np L st (xf_I σ 3 v, τ)) : xf_V X pc L (.int v :: .ref (xw_a P 1) :: st) (σ, τ) := xf_put hX np hp xin_TA xnK_TA xnO_TA xnM_TA 1 rfl rfl 3 (by decide) hl rfl (by decide +kernel) (Nat.le_of_ble_eq_true rfl) (σ' := (xf_I σ 3 v, τ)) rfl hd kk
theorem xg_TA_nearMisses (hX : xf_ok X l own cc nL fr lo (xw_W P) D tys) (np : Nat) (hp : pc + 3 = np) (hl : Cond.fieldLink own idx (xnT_TA 4).1 (xnT_TA 4).2.1 (xnT_TA 4).2.2.1 ∈ xf_GW) (hd : decode cc pc = .ok (.getfield idx, 3)) (kk : xf_V X np L (.int (σ.1 4) :: st) (σ, τ)) : xf_V X pc L (.ref (xw_a P 1) :: st) (σ, τ) := xf_get hX np hp xin_TA 1 rfl rfl 4 (by decide) hl rfl hd kk
theorem xp_TA_nearMisses (hX : xf_ok X l own cc nL fr lo (xw_W P) D tys) (np : Nat) (hp : pc + 3 = np) {v : Int32} (hl : Cond.fieldLink own idx (xnT_TA 4).1 (xnT_TA 4).2.1 (xnT_TA 4).2.2.1 ∈ xf_GW) (hd : decode cc pc = .ok (.putfield idx, 3)) (kk : xf_V X np L st (xf_I σ 4 v, τ)) : xf_V X pc L (.int v :: .ref (xw_a P 1) :: st) (σ, τ) := xf_put hX np hp xin_TA xnK_TA xnO_TA xnM_TA 1 rfl rfl 4 (by decide) hl rfl (by decide +kernel) (Nat.le_of_ble_eq_true rfl) (σ' := (xf_I σ 4 v, τ)) rfl hd kk
theorem xg_TA_expiredRemoved (hX : xf_ok X l own cc nL fr lo (xw_W P) D tys) (np : Nat) (hp : pc + 3 = np) (hl : Cond.fieldLink own idx (xnT_TA 5).1 (xnT_TA 5).2.1 (xnT_TA 5).2.2.1 ∈ xf_GW) (hd : decode cc pc = .ok (.getfield idx, 3)) (kk : xf_V X np L (.int (σ.1 5) :: st) (σ, τ)) : xf_V X pc L (.ref (xw_a P 1) :: st) (σ, τ) := xf_get hX np hp xin_TA 1 rfl rfl 5 (by decide) hl rfl hd kk
theorem xp_TA_expiredRemoved (hX : xf_ok X l own cc nL fr lo (xw_W P) D tys) (np : Nat) (hp : pc + 3 = np) {v : Int32} (hl : Cond.fieldLink own idx (xnT_TA 5).1 (xnT_TA 5).2.1 (xnT_TA 5).2.2.1 ∈ xf_GW) (hd : decode cc pc = .ok (.putfield idx, 3)) (kk : xf_V X np L st (xf_I σ 5 v, τ)) : xf_V X pc L (.int v :: .ref (xw_a P 1) :: st) (σ, τ) := xf_put hX np hp xin_TA xnK_TA xnO_TA xnM_TA 1 rfl rfl 5 (by decide) hl rfl (by decide +kernel) (Nat.le_of_ble_eq_true rfl) (σ' := (xf_I σ 5 v, τ)) rfl hd kk
theorem xg_ST_tally (hX : xf_ok X l own cc nL fr lo (xw_W P) D tys) (np : Nat) (hp : pc + 3 = np) (hl : Cond.fieldLink own idx (xnT_ST 0).1 (xnT_ST 0).2.1 (xnT_ST 0).2.2.1 ∈ xf_GW) (hd : decode cc pc = .ok (.getfield idx, 3)) (kk : xf_V X np L (.ref (xw_a P 1) :: st) (σ, τ)) : xf_V X pc L (.ref (xw_a P 2) :: st) (σ, τ) := xf_get hX np hp xin_ST 2 rfl rfl 0 (by decide) hl rfl hd kk
theorem xg_ST_capacity (hX : xf_ok X l own cc nL fr lo (xw_W P) D tys) (np : Nat) (hp : pc + 3 = np) (hl : Cond.fieldLink own idx (xnT_ST 1).1 (xnT_ST 1).2.1 (xnT_ST 1).2.2.1 ∈ xf_GW) (hd : decode cc pc = .ok (.getfield idx, 3)) (kk : xf_V X np L (.int (nI (xw_n P)) :: st) (σ, τ)) : xf_V X pc L (.ref (xw_a P 2) :: st) (σ, τ) := xf_get hX np hp xin_ST 2 rfl rfl 1 (by decide) hl rfl hd kk
theorem xg_ST_ways (hX : xf_ok X l own cc nL fr lo (xw_W P) D tys) (np : Nat) (hp : pc + 3 = np) (hl : Cond.fieldLink own idx (xnT_ST 2).1 (xnT_ST 2).2.1 (xnT_ST 2).2.2.1 ∈ xf_GW) (hd : decode cc pc = .ok (.getfield idx, 3)) (kk : xf_V X np L (.int (nI (xw_w P)) :: st) (σ, τ)) : xf_V X pc L (.ref (xw_a P 2) :: st) (σ, τ) := xf_get hX np hp xin_ST 2 rfl rfl 2 (by decide) hl rfl hd kk
theorem xg_ST_places (hX : xf_ok X l own cc nL fr lo (xw_W P) D tys) (np : Nat) (hp : pc + 3 = np) (hl : Cond.fieldLink own idx (xnT_ST 3).1 (xnT_ST 3).2.1 (xnT_ST 3).2.2.1 ∈ xf_GW) (hd : decode cc pc = .ok (.getfield idx, 3)) (kk : xf_V X np L (.ref (xw_a P 5) :: st) (σ, τ)) : xf_V X pc L (.ref (xw_a P 2) :: st) (σ, τ) := xf_get hX np hp xin_ST 2 rfl rfl 3 (by decide) hl rfl hd kk
theorem xg_ST_keys (hX : xf_ok X l own cc nL fr lo (xw_W P) D tys) (np : Nat) (hp : pc + 3 = np) (hl : Cond.fieldLink own idx (xnT_ST 4).1 (xnT_ST 4).2.1 (xnT_ST 4).2.2.1 ∈ xf_GW) (hd : decode cc pc = .ok (.getfield idx, 3)) (kk : xf_V X np L (.ref (xw_a P 6) :: st) (σ, τ)) : xf_V X pc L (.ref (xw_a P 2) :: st) (σ, τ) := xf_get hX np hp xin_ST 2 rfl rfl 4 (by decide) hl rfl hd kk
theorem xg_ST_values (hX : xf_ok X l own cc nL fr lo (xw_W P) D tys) (np : Nat) (hp : pc + 3 = np) (hl : Cond.fieldLink own idx (xnT_ST 5).1 (xnT_ST 5).2.1 (xnT_ST 5).2.2.1 ∈ xf_GW) (hd : decode cc pc = .ok (.getfield idx, 3)) (kk : xf_V X np L (.ref (xw_a P 7) :: st) (σ, τ)) : xf_V X pc L (.ref (xw_a P 2) :: st) (σ, τ) := xf_get hX np hp xin_ST 2 rfl rfl 5 (by decide) hl rfl hd kk
theorem xg_ST_tokens (hX : xf_ok X l own cc nL fr lo (xw_W P) D tys) (np : Nat) (hp : pc + 3 = np) (hl : Cond.fieldLink own idx (xnT_ST 6).1 (xnT_ST 6).2.1 (xnT_ST 6).2.2.1 ∈ xf_GW) (hd : decode cc pc = .ok (.getfield idx, 3)) (kk : xf_V X np L (.ref (xw_a P 8) :: st) (σ, τ)) : xf_V X pc L (.ref (xw_a P 2) :: st) (σ, τ) := xf_get hX np hp xin_ST 2 rfl rfl 6 (by decide) hl rfl hd kk
theorem xg_ST_expiries (hX : xf_ok X l own cc nL fr lo (xw_W P) D tys) (np : Nat) (hp : pc + 3 = np) (hl : Cond.fieldLink own idx (xnT_ST 7).1 (xnT_ST 7).2.1 (xnT_ST 7).2.2.1 ∈ xf_GW) (hd : decode cc pc = .ok (.getfield idx, 3)) (kk : xf_V X np L (.ref (xw_a P 9) :: st) (σ, τ)) : xf_V X pc L (.ref (xw_a P 2) :: st) (σ, τ) := xf_get hX np hp xin_ST 2 rfl rfl 7 (by decide) hl rfl hd kk
theorem xg_ST_bits (hX : xf_ok X l own cc nL fr lo (xw_W P) D tys) (np : Nat) (hp : pc + 3 = np) (hl : Cond.fieldLink own idx (xnT_ST 8).1 (xnT_ST 8).2.1 (xnT_ST 8).2.2.1 ∈ xf_GW) (hd : decode cc pc = .ok (.getfield idx, 3)) (kk : xf_V X np L (.ref (xw_a P 10) :: st) (σ, τ)) : xf_V X pc L (.ref (xw_a P 2) :: st) (σ, τ) := xf_get hX np hp xin_ST 2 rfl rfl 8 (by decide) hl rfl hd kk
theorem xg_ST_usedFlags (hX : xf_ok X l own cc nL fr lo (xw_W P) D tys) (np : Nat) (hp : pc + 3 = np) (hl : Cond.fieldLink own idx (xnT_ST 9).1 (xnT_ST 9).2.1 (xnT_ST 9).2.2.1 ∈ xf_GW) (hd : decode cc pc = .ok (.getfield idx, 3)) (kk : xf_V X np L (.ref (xw_a P 11) :: st) (σ, τ)) : xf_V X pc L (.ref (xw_a P 2) :: st) (σ, τ) := xf_get hX np hp xin_ST 2 rfl rfl 9 (by decide) hl rfl hd kk
theorem xg_ST_versions (hX : xf_ok X l own cc nL fr lo (xw_W P) D tys) (np : Nat) (hp : pc + 3 = np) (hl : Cond.fieldLink own idx (xnT_ST 10).1 (xnT_ST 10).2.1 (xnT_ST 10).2.2.1 ∈ xf_GW) (hd : decode cc pc = .ok (.getfield idx, 3)) (kk : xf_V X np L (.ref (xw_a P 12) :: st) (σ, τ)) : xf_V X pc L (.ref (xw_a P 2) :: st) (σ, τ) := xf_get hX np hp xin_ST 2 rfl rfl 10 (by decide) hl rfl hd kk
theorem xg_ST_usedCount (hX : xf_ok X l own cc nL fr lo (xw_W P) D tys) (np : Nat) (hp : pc + 3 = np) (hl : Cond.fieldLink own idx (xnT_ST 11).1 (xnT_ST 11).2.1 (xnT_ST 11).2.2.1 ∈ xf_GW) (hd : decode cc pc = .ok (.getfield idx, 3)) (kk : xf_V X np L (.int (σ.1 6) :: st) (σ, τ)) : xf_V X pc L (.ref (xw_a P 2) :: st) (σ, τ) := xf_get hX np hp xin_ST 2 rfl rfl 11 (by decide) hl rfl hd kk
theorem xp_ST_usedCount (hX : xf_ok X l own cc nL fr lo (xw_W P) D tys) (np : Nat) (hp : pc + 3 = np) {v : Int32} (hl : Cond.fieldLink own idx (xnT_ST 11).1 (xnT_ST 11).2.1 (xnT_ST 11).2.2.1 ∈ xf_GW) (hd : decode cc pc = .ok (.putfield idx, 3)) (kk : xf_V X np L st (xf_I σ 6 v, τ)) : xf_V X pc L (.int v :: .ref (xw_a P 2) :: st) (σ, τ) := xf_put hX np hp xin_ST xnK_ST xnO_ST xnM_ST 2 rfl rfl 11 (by decide) hl rfl (by decide +kernel) (Nat.le_of_ble_eq_true rfl) (σ' := (xf_I σ 6 v, τ)) rfl hd kk
theorem xg_ST_time (hX : xf_ok X l own cc nL fr lo (xw_W P) D tys) (np : Nat) (hp : pc + 3 = np) (hl : Cond.fieldLink own idx (xnT_ST 12).1 (xnT_ST 12).2.1 (xnT_ST 12).2.2.1 ∈ xf_GW) (hd : decode cc pc = .ok (.getfield idx, 3)) (kk : xf_V X np L (.int (σ.1 7) :: st) (σ, τ)) : xf_V X pc L (.ref (xw_a P 2) :: st) (σ, τ) := xf_get hX np hp xin_ST 2 rfl rfl 12 (by decide) hl rfl hd kk
theorem xp_ST_time (hX : xf_ok X l own cc nL fr lo (xw_W P) D tys) (np : Nat) (hp : pc + 3 = np) {v : Int32} (hl : Cond.fieldLink own idx (xnT_ST 12).1 (xnT_ST 12).2.1 (xnT_ST 12).2.2.1 ∈ xf_GW) (hd : decode cc pc = .ok (.putfield idx, 3)) (kk : xf_V X np L st (xf_I σ 7 v, τ)) : xf_V X pc L (.int v :: .ref (xw_a P 2) :: st) (σ, τ) := xf_put hX np hp xin_ST xnK_ST xnO_ST xnM_ST 2 rfl rfl 12 (by decide) hl rfl (by decide +kernel) (Nat.le_of_ble_eq_true rfl) (σ' := (xf_I σ 7 v, τ)) rfl hd kk
theorem xg_ST_latestToken (hX : xf_ok X l own cc nL fr lo (xw_W P) D tys) (np : Nat) (hp : pc + 3 = np) (hl : Cond.fieldLink own idx (xnT_ST 13).1 (xnT_ST 13).2.1 (xnT_ST 13).2.2.1 ∈ xf_GW) (hd : decode cc pc = .ok (.getfield idx, 3)) (kk : xf_V X np L (.int (σ.1 8) :: st) (σ, τ)) : xf_V X pc L (.ref (xw_a P 2) :: st) (σ, τ) := xf_get hX np hp xin_ST 2 rfl rfl 13 (by decide) hl rfl hd kk
theorem xp_ST_latestToken (hX : xf_ok X l own cc nL fr lo (xw_W P) D tys) (np : Nat) (hp : pc + 3 = np) {v : Int32} (hl : Cond.fieldLink own idx (xnT_ST 13).1 (xnT_ST 13).2.1 (xnT_ST 13).2.2.1 ∈ xf_GW) (hd : decode cc pc = .ok (.putfield idx, 3)) (kk : xf_V X np L st (xf_I σ 8 v, τ)) : xf_V X pc L (.int v :: .ref (xw_a P 2) :: st) (σ, τ) := xf_put hX np hp xin_ST xnK_ST xnO_ST xnM_ST 2 rfl rfl 13 (by decide) hl rfl (by decide +kernel) (Nat.le_of_ble_eq_true rfl) (σ' := (xf_I σ 8 v, τ)) rfl hd kk
theorem xg_WR_store (hX : xf_ok X l own cc nL fr lo (xw_W P) D tys) (np : Nat) (hp : pc + 3 = np) (hl : Cond.fieldLink own idx (xnT_WR 0).1 (xnT_WR 0).2.1 (xnT_WR 0).2.2.1 ∈ xf_GW) (hd : decode cc pc = .ok (.getfield idx, 3)) (kk : xf_V X np L (.ref (xw_a P 2) :: st) (σ, τ)) : xf_V X pc L (.ref (xw_a P 3) :: st) (σ, τ) := xf_get hX np hp xin_WR 3 rfl rfl 0 (by decide) hl rfl hd kk
theorem xg_WR_tally (hX : xf_ok X l own cc nL fr lo (xw_W P) D tys) (np : Nat) (hp : pc + 3 = np) (hl : Cond.fieldLink own idx (xnT_WR 1).1 (xnT_WR 1).2.1 (xnT_WR 1).2.2.1 ∈ xf_GW) (hd : decode cc pc = .ok (.getfield idx, 3)) (kk : xf_V X np L (.ref (xw_a P 1) :: st) (σ, τ)) : xf_V X pc L (.ref (xw_a P 3) :: st) (σ, τ) := xf_get hX np hp xin_WR 3 rfl rfl 1 (by decide) hl rfl hd kk
theorem xg_WR_path (hX : xf_ok X l own cc nL fr lo (xw_W P) D tys) (np : Nat) (hp : pc + 3 = np) (hl : Cond.fieldLink own idx (xnT_WR 2).1 (xnT_WR 2).2.1 (xnT_WR 2).2.2.1 ∈ xf_GW) (hd : decode cc pc = .ok (.getfield idx, 3)) (kk : xf_V X np L (.ref (xw_a P 13) :: st) (σ, τ)) : xf_V X pc L (.ref (xw_a P 3) :: st) (σ, τ) := xf_get hX np hp xin_WR 3 rfl rfl 2 (by decide) hl rfl hd kk
theorem xg_WR_outcome (hX : xf_ok X l own cc nL fr lo (xw_W P) D tys) (np : Nat) (hp : pc + 3 = np) (hl : Cond.fieldLink own idx (xnT_WR 3).1 (xnT_WR 3).2.1 (xnT_WR 3).2.2.1 ∈ xf_GW) (hd : decode cc pc = .ok (.getfield idx, 3)) (kk : xf_V X np L (.int (σ.1 9) :: st) (σ, τ)) : xf_V X pc L (.ref (xw_a P 3) :: st) (σ, τ) := xf_get hX np hp xin_WR 3 rfl rfl 3 (by decide) hl rfl hd kk
theorem xp_WR_outcome (hX : xf_ok X l own cc nL fr lo (xw_W P) D tys) (np : Nat) (hp : pc + 3 = np) {v : Int32} (hl : Cond.fieldLink own idx (xnT_WR 3).1 (xnT_WR 3).2.1 (xnT_WR 3).2.2.1 ∈ xf_GW) (hd : decode cc pc = .ok (.putfield idx, 3)) (kk : xf_V X np L st (xf_I σ 9 v, τ)) : xf_V X pc L (.int v :: .ref (xw_a P 3) :: st) (σ, τ) := xf_put hX np hp xin_WR xnK_WR xnO_WR xnM_WR 3 rfl rfl 3 (by decide) hl rfl (by decide +kernel) (Nat.le_of_ble_eq_true rfl) (σ' := (xf_I σ 9 v, τ)) rfl hd kk
theorem xg_WR_hand (hX : xf_ok X l own cc nL fr lo (xw_W P) D tys) (np : Nat) (hp : pc + 3 = np) (hl : Cond.fieldLink own idx (xnT_WR 4).1 (xnT_WR 4).2.1 (xnT_WR 4).2.2.1 ∈ xf_GW) (hd : decode cc pc = .ok (.getfield idx, 3)) (kk : xf_V X np L (.int (σ.1 10) :: st) (σ, τ)) : xf_V X pc L (.ref (xw_a P 3) :: st) (σ, τ) := xf_get hX np hp xin_WR 3 rfl rfl 4 (by decide) hl rfl hd kk
theorem xp_WR_hand (hX : xf_ok X l own cc nL fr lo (xw_W P) D tys) (np : Nat) (hp : pc + 3 = np) {v : Int32} (hl : Cond.fieldLink own idx (xnT_WR 4).1 (xnT_WR 4).2.1 (xnT_WR 4).2.2.1 ∈ xf_GW) (hd : decode cc pc = .ok (.putfield idx, 3)) (kk : xf_V X np L st (xf_I σ 10 v, τ)) : xf_V X pc L (.int v :: .ref (xw_a P 3) :: st) (σ, τ) := xf_put hX np hp xin_WR xnK_WR xnO_WR xnM_WR 3 rfl rfl 4 (by decide) hl rfl (by decide +kernel) (Nat.le_of_ble_eq_true rfl) (σ' := (xf_I σ 10 v, τ)) rfl hd kk
theorem xg_WR_kind (hX : xf_ok X l own cc nL fr lo (xw_W P) D tys) (np : Nat) (hp : pc + 3 = np) (hl : Cond.fieldLink own idx (xnT_WR 5).1 (xnT_WR 5).2.1 (xnT_WR 5).2.2.1 ∈ xf_GW) (hd : decode cc pc = .ok (.getfield idx, 3)) (kk : xf_V X np L (.int (σ.1 11) :: st) (σ, τ)) : xf_V X pc L (.ref (xw_a P 3) :: st) (σ, τ) := xf_get hX np hp xin_WR 3 rfl rfl 5 (by decide) hl rfl hd kk
theorem xp_WR_kind (hX : xf_ok X l own cc nL fr lo (xw_W P) D tys) (np : Nat) (hp : pc + 3 = np) {v : Int32} (hl : Cond.fieldLink own idx (xnT_WR 5).1 (xnT_WR 5).2.1 (xnT_WR 5).2.2.1 ∈ xf_GW) (hd : decode cc pc = .ok (.putfield idx, 3)) (kk : xf_V X np L st (xf_I σ 11 v, τ)) : xf_V X pc L (.int v :: .ref (xw_a P 3) :: st) (σ, τ) := xf_put hX np hp xin_WR xnK_WR xnO_WR xnM_WR 3 rfl rfl 5 (by decide) hl rfl (by decide +kernel) (Nat.le_of_ble_eq_true rfl) (σ' := (xf_I σ 11 v, τ)) rfl hd kk
theorem xg_WR_key (hX : xf_ok X l own cc nL fr lo (xw_W P) D tys) (np : Nat) (hp : pc + 3 = np) (hl : Cond.fieldLink own idx (xnT_WR 6).1 (xnT_WR 6).2.1 (xnT_WR 6).2.2.1 ∈ xf_GW) (hd : decode cc pc = .ok (.getfield idx, 3)) (kk : xf_V X np L (.int (σ.1 12) :: st) (σ, τ)) : xf_V X pc L (.ref (xw_a P 3) :: st) (σ, τ) := xf_get hX np hp xin_WR 3 rfl rfl 6 (by decide) hl rfl hd kk
theorem xp_WR_key (hX : xf_ok X l own cc nL fr lo (xw_W P) D tys) (np : Nat) (hp : pc + 3 = np) {v : Int32} (hl : Cond.fieldLink own idx (xnT_WR 6).1 (xnT_WR 6).2.1 (xnT_WR 6).2.2.1 ∈ xf_GW) (hd : decode cc pc = .ok (.putfield idx, 3)) (kk : xf_V X np L st (xf_I σ 12 v, τ)) : xf_V X pc L (.int v :: .ref (xw_a P 3) :: st) (σ, τ) := xf_put hX np hp xin_WR xnK_WR xnO_WR xnM_WR 3 rfl rfl 6 (by decide) hl rfl (by decide +kernel) (Nat.le_of_ble_eq_true rfl) (σ' := (xf_I σ 12 v, τ)) rfl hd kk
theorem xg_WR_newValue (hX : xf_ok X l own cc nL fr lo (xw_W P) D tys) (np : Nat) (hp : pc + 3 = np) (hl : Cond.fieldLink own idx (xnT_WR 7).1 (xnT_WR 7).2.1 (xnT_WR 7).2.2.1 ∈ xf_GW) (hd : decode cc pc = .ok (.getfield idx, 3)) (kk : xf_V X np L (.int (σ.1 13) :: st) (σ, τ)) : xf_V X pc L (.ref (xw_a P 3) :: st) (σ, τ) := xf_get hX np hp xin_WR 3 rfl rfl 7 (by decide) hl rfl hd kk
theorem xp_WR_newValue (hX : xf_ok X l own cc nL fr lo (xw_W P) D tys) (np : Nat) (hp : pc + 3 = np) {v : Int32} (hl : Cond.fieldLink own idx (xnT_WR 7).1 (xnT_WR 7).2.1 (xnT_WR 7).2.2.1 ∈ xf_GW) (hd : decode cc pc = .ok (.putfield idx, 3)) (kk : xf_V X np L st (xf_I σ 13 v, τ)) : xf_V X pc L (.int v :: .ref (xw_a P 3) :: st) (σ, τ) := xf_put hX np hp xin_WR xnK_WR xnO_WR xnM_WR 3 rfl rfl 7 (by decide) hl rfl (by decide +kernel) (Nat.le_of_ble_eq_true rfl) (σ' := (xf_I σ 13 v, τ)) rfl hd kk
theorem xg_WR_life (hX : xf_ok X l own cc nL fr lo (xw_W P) D tys) (np : Nat) (hp : pc + 3 = np) (hl : Cond.fieldLink own idx (xnT_WR 8).1 (xnT_WR 8).2.1 (xnT_WR 8).2.2.1 ∈ xf_GW) (hd : decode cc pc = .ok (.getfield idx, 3)) (kk : xf_V X np L (.int (σ.1 14) :: st) (σ, τ)) : xf_V X pc L (.ref (xw_a P 3) :: st) (σ, τ) := xf_get hX np hp xin_WR 3 rfl rfl 8 (by decide) hl rfl hd kk
theorem xp_WR_life (hX : xf_ok X l own cc nL fr lo (xw_W P) D tys) (np : Nat) (hp : pc + 3 = np) {v : Int32} (hl : Cond.fieldLink own idx (xnT_WR 8).1 (xnT_WR 8).2.1 (xnT_WR 8).2.2.1 ∈ xf_GW) (hd : decode cc pc = .ok (.putfield idx, 3)) (kk : xf_V X np L st (xf_I σ 14 v, τ)) : xf_V X pc L (.int v :: .ref (xw_a P 3) :: st) (σ, τ) := xf_put hX np hp xin_WR xnK_WR xnO_WR xnM_WR 3 rfl rfl 8 (by decide) hl rfl (by decide +kernel) (Nat.le_of_ble_eq_true rfl) (σ' := (xf_I σ 14 v, τ)) rfl hd kk
theorem xg_WR_knownToken (hX : xf_ok X l own cc nL fr lo (xw_W P) D tys) (np : Nat) (hp : pc + 3 = np) (hl : Cond.fieldLink own idx (xnT_WR 9).1 (xnT_WR 9).2.1 (xnT_WR 9).2.2.1 ∈ xf_GW) (hd : decode cc pc = .ok (.getfield idx, 3)) (kk : xf_V X np L (.int (σ.1 15) :: st) (σ, τ)) : xf_V X pc L (.ref (xw_a P 3) :: st) (σ, τ) := xf_get hX np hp xin_WR 3 rfl rfl 9 (by decide) hl rfl hd kk
theorem xp_WR_knownToken (hX : xf_ok X l own cc nL fr lo (xw_W P) D tys) (np : Nat) (hp : pc + 3 = np) {v : Int32} (hl : Cond.fieldLink own idx (xnT_WR 9).1 (xnT_WR 9).2.1 (xnT_WR 9).2.2.1 ∈ xf_GW) (hd : decode cc pc = .ok (.putfield idx, 3)) (kk : xf_V X np L st (xf_I σ 15 v, τ)) : xf_V X pc L (.int v :: .ref (xw_a P 3) :: st) (σ, τ) := xf_put hX np hp xin_WR xnK_WR xnO_WR xnM_WR 3 rfl rfl 9 (by decide) hl rfl (by decide +kernel) (Nat.le_of_ble_eq_true rfl) (σ' := (xf_I σ 15 v, τ)) rfl hd kk
theorem xg_WR_next (hX : xf_ok X l own cc nL fr lo (xw_W P) D tys) (np : Nat) (hp : pc + 3 = np) (hl : Cond.fieldLink own idx (xnT_WR 10).1 (xnT_WR 10).2.1 (xnT_WR 10).2.2.1 ∈ xf_GW) (hd : decode cc pc = .ok (.getfield idx, 3)) (kk : xf_V X np L (.int (σ.1 16) :: st) (σ, τ)) : xf_V X pc L (.ref (xw_a P 3) :: st) (σ, τ) := xf_get hX np hp xin_WR 3 rfl rfl 10 (by decide) hl rfl hd kk
theorem xp_WR_next (hX : xf_ok X l own cc nL fr lo (xw_W P) D tys) (np : Nat) (hp : pc + 3 = np) {v : Int32} (hl : Cond.fieldLink own idx (xnT_WR 10).1 (xnT_WR 10).2.1 (xnT_WR 10).2.2.1 ∈ xf_GW) (hd : decode cc pc = .ok (.putfield idx, 3)) (kk : xf_V X np L st (xf_I σ 16 v, τ)) : xf_V X pc L (.int v :: .ref (xw_a P 3) :: st) (σ, τ) := xf_put hX np hp xin_WR xnK_WR xnO_WR xnM_WR 3 rfl rfl 10 (by decide) hl rfl (by decide +kernel) (Nat.le_of_ble_eq_true rfl) (σ' := (xf_I σ 16 v, τ)) rfl hd kk
theorem xg_WR_changed (hX : xf_ok X l own cc nL fr lo (xw_W P) D tys) (np : Nat) (hp : pc + 3 = np) (hl : Cond.fieldLink own idx (xnT_WR 11).1 (xnT_WR 11).2.1 (xnT_WR 11).2.2.1 ∈ xf_GW) (hd : decode cc pc = .ok (.getfield idx, 3)) (kk : xf_V X np L (.int (σ.1 17) :: st) (σ, τ)) : xf_V X pc L (.ref (xw_a P 3) :: st) (σ, τ) := xf_get hX np hp xin_WR 3 rfl rfl 11 (by decide) hl rfl hd kk
theorem xp_WR_changed (hX : xf_ok X l own cc nL fr lo (xw_W P) D tys) (np : Nat) (hp : pc + 3 = np) {v : Int32} (hl : Cond.fieldLink own idx (xnT_WR 11).1 (xnT_WR 11).2.1 (xnT_WR 11).2.2.1 ∈ xf_GW) (hd : decode cc pc = .ok (.putfield idx, 3)) (kk : xf_V X np L st (xf_I σ 17 v, τ)) : xf_V X pc L (.int v :: .ref (xw_a P 3) :: st) (σ, τ) := xf_put hX np hp xin_WR xnK_WR xnO_WR xnM_WR 3 rfl rfl 11 (by decide) hl rfl (by decide +kernel) (Nat.le_of_ble_eq_true rfl) (σ' := (xf_I σ 17 v, τ)) rfl hd kk
theorem xg_WR_moving (hX : xf_ok X l own cc nL fr lo (xw_W P) D tys) (np : Nat) (hp : pc + 3 = np) (hl : Cond.fieldLink own idx (xnT_WR 12).1 (xnT_WR 12).2.1 (xnT_WR 12).2.2.1 ∈ xf_GW) (hd : decode cc pc = .ok (.getfield idx, 3)) (kk : xf_V X np L (.int (σ.1 18) :: st) (σ, τ)) : xf_V X pc L (.ref (xw_a P 3) :: st) (σ, τ) := xf_get hX np hp xin_WR 3 rfl rfl 12 (by decide) hl rfl hd kk
theorem xp_WR_moving (hX : xf_ok X l own cc nL fr lo (xw_W P) D tys) (np : Nat) (hp : pc + 3 = np) {v : Int32} (hl : Cond.fieldLink own idx (xnT_WR 12).1 (xnT_WR 12).2.1 (xnT_WR 12).2.2.1 ∈ xf_GW) (hd : decode cc pc = .ok (.putfield idx, 3)) (kk : xf_V X np L st (xf_I σ 18 v, τ)) : xf_V X pc L (.int v :: .ref (xw_a P 3) :: st) (σ, τ) := xf_put hX np hp xin_WR xnK_WR xnO_WR xnM_WR 3 rfl rfl 12 (by decide) hl rfl (by decide +kernel) (Nat.le_of_ble_eq_true rfl) (σ' := (xf_I σ 18 v, τ)) rfl hd kk
theorem xg_PA_store (hX : xf_ok X l own cc nL fr lo (xw_W P) D tys) (np : Nat) (hp : pc + 3 = np) (hl : Cond.fieldLink own idx (xnT_PA 0).1 (xnT_PA 0).2.1 (xnT_PA 0).2.2.1 ∈ xf_GW) (hd : decode cc pc = .ok (.getfield idx, 3)) (kk : xf_V X np L (.ref (xw_a P 2) :: st) (σ, τ)) : xf_V X pc L (.ref (xw_a P 13) :: st) (σ, τ) := xf_get hX np hp xin_PA 13 rfl rfl 0 (by decide) hl rfl hd kk
theorem xg_PA_stops (hX : xf_ok X l own cc nL fr lo (xw_W P) D tys) (np : Nat) (hp : pc + 3 = np) (hl : Cond.fieldLink own idx (xnT_PA 1).1 (xnT_PA 1).2.1 (xnT_PA 1).2.2.1 ∈ xf_GW) (hd : decode cc pc = .ok (.getfield idx, 3)) (kk : xf_V X np L (.ref (xw_a P 14) :: st) (σ, τ)) : xf_V X pc L (.ref (xw_a P 13) :: st) (σ, τ) := xf_get hX np hp xin_PA 13 rfl rfl 1 (by decide) hl rfl hd kk
theorem xg_PA_length (hX : xf_ok X l own cc nL fr lo (xw_W P) D tys) (np : Nat) (hp : pc + 3 = np) (hl : Cond.fieldLink own idx (xnT_PA 2).1 (xnT_PA 2).2.1 (xnT_PA 2).2.2.1 ∈ xf_GW) (hd : decode cc pc = .ok (.getfield idx, 3)) (kk : xf_V X np L (.int (σ.1 19) :: st) (σ, τ)) : xf_V X pc L (.ref (xw_a P 13) :: st) (σ, τ) := xf_get hX np hp xin_PA 13 rfl rfl 2 (by decide) hl rfl hd kk
theorem xp_PA_length (hX : xf_ok X l own cc nL fr lo (xw_W P) D tys) (np : Nat) (hp : pc + 3 = np) {v : Int32} (hl : Cond.fieldLink own idx (xnT_PA 2).1 (xnT_PA 2).2.1 (xnT_PA 2).2.2.1 ∈ xf_GW) (hd : decode cc pc = .ok (.putfield idx, 3)) (kk : xf_V X np L st (xf_I σ 19 v, τ)) : xf_V X pc L (.int v :: .ref (xw_a P 13) :: st) (σ, τ) := xf_put hX np hp xin_PA xnK_PA xnO_PA xnM_PA 13 rfl rfl 2 (by decide) hl rfl (by decide +kernel) (Nat.le_of_ble_eq_true rfl) (σ' := (xf_I σ 19 v, τ)) rfl hd kk
theorem xg_PA_queue (hX : xf_ok X l own cc nL fr lo (xw_W P) D tys) (np : Nat) (hp : pc + 3 = np) (hl : Cond.fieldLink own idx (xnT_PA 3).1 (xnT_PA 3).2.1 (xnT_PA 3).2.2.1 ∈ xf_GW) (hd : decode cc pc = .ok (.getfield idx, 3)) (kk : xf_V X np L (.ref (xw_a P 15) :: st) (σ, τ)) : xf_V X pc L (.ref (xw_a P 13) :: st) (σ, τ) := xf_get hX np hp xin_PA 13 rfl rfl 3 (by decide) hl rfl hd kk
theorem xg_PA_before (hX : xf_ok X l own cc nL fr lo (xw_W P) D tys) (np : Nat) (hp : pc + 3 = np) (hl : Cond.fieldLink own idx (xnT_PA 4).1 (xnT_PA 4).2.1 (xnT_PA 4).2.2.1 ∈ xf_GW) (hd : decode cc pc = .ok (.getfield idx, 3)) (kk : xf_V X np L (.ref (xw_a P 16) :: st) (σ, τ)) : xf_V X pc L (.ref (xw_a P 13) :: st) (σ, τ) := xf_get hX np hp xin_PA 13 rfl rfl 4 (by decide) hl rfl hd kk
theorem xg_PA_depths (hX : xf_ok X l own cc nL fr lo (xw_W P) D tys) (np : Nat) (hp : pc + 3 = np) (hl : Cond.fieldLink own idx (xnT_PA 5).1 (xnT_PA 5).2.1 (xnT_PA 5).2.2.1 ∈ xf_GW) (hd : decode cc pc = .ok (.getfield idx, 3)) (kk : xf_V X np L (.ref (xw_a P 17) :: st) (σ, τ)) : xf_V X pc L (.ref (xw_a P 13) :: st) (σ, τ) := xf_get hX np hp xin_PA 13 rfl rfl 5 (by decide) hl rfl hd kk
theorem xg_PA_queued (hX : xf_ok X l own cc nL fr lo (xw_W P) D tys) (np : Nat) (hp : pc + 3 = np) (hl : Cond.fieldLink own idx (xnT_PA 6).1 (xnT_PA 6).2.1 (xnT_PA 6).2.2.1 ∈ xf_GW) (hd : decode cc pc = .ok (.getfield idx, 3)) (kk : xf_V X np L (.int (σ.1 20) :: st) (σ, τ)) : xf_V X pc L (.ref (xw_a P 13) :: st) (σ, τ) := xf_get hX np hp xin_PA 13 rfl rfl 6 (by decide) hl rfl hd kk
theorem xp_PA_queued (hX : xf_ok X l own cc nL fr lo (xw_W P) D tys) (np : Nat) (hp : pc + 3 = np) {v : Int32} (hl : Cond.fieldLink own idx (xnT_PA 6).1 (xnT_PA 6).2.1 (xnT_PA 6).2.2.1 ∈ xf_GW) (hd : decode cc pc = .ok (.putfield idx, 3)) (kk : xf_V X np L st (xf_I σ 20 v, τ)) : xf_V X pc L (.int v :: .ref (xw_a P 13) :: st) (σ, τ) := xf_put hX np hp xin_PA xnK_PA xnO_PA xnM_PA 13 rfl rfl 6 (by decide) hl rfl (by decide +kernel) (Nat.le_of_ble_eq_true rfl) (σ' := (xf_I σ 20 v, τ)) rfl hd kk
theorem xg_RD_store (hX : xf_ok X l own cc nL fr lo (xw_W P) D tys) (np : Nat) (hp : pc + 3 = np) {r : Nat} (hr : r < 3) (hl : Cond.fieldLink own idx (xnT_RD 0).1 (xnT_RD 0).2.1 (xnT_RD 0).2.2.1 ∈ xf_GW) (hd : decode cc pc = .ok (.getfield idx, 3)) (kk : xf_V X np L (.ref (xw_a P 2) :: st) (σ, τ)) : xf_V X pc L (.ref (xw_a P (18 + r)) :: st) (σ, τ) := xf_get hX np hp xin_RD (18 + r) (xw_at_rd hr) rfl 0 (by decide) hl rfl hd kk
theorem xg_RD_writer (hX : xf_ok X l own cc nL fr lo (xw_W P) D tys) (np : Nat) (hp : pc + 3 = np) {r : Nat} (hr : r < 3) (hl : Cond.fieldLink own idx (xnT_RD 1).1 (xnT_RD 1).2.1 (xnT_RD 1).2.2.1 ∈ xf_GW) (hd : decode cc pc = .ok (.getfield idx, 3)) (kk : xf_V X np L (.ref (xw_a P 3) :: st) (σ, τ)) : xf_V X pc L (.ref (xw_a P (18 + r)) :: st) (σ, τ) := xf_get hX np hp xin_RD (18 + r) (xw_at_rd hr) rfl 1 (by decide) hl rfl hd kk
theorem xg_RD_tally (hX : xf_ok X l own cc nL fr lo (xw_W P) D tys) (np : Nat) (hp : pc + 3 = np) {r : Nat} (hr : r < 3) (hl : Cond.fieldLink own idx (xnT_RD 2).1 (xnT_RD 2).2.1 (xnT_RD 2).2.2.1 ∈ xf_GW) (hd : decode cc pc = .ok (.getfield idx, 3)) (kk : xf_V X np L (.ref (xw_a P 1) :: st) (σ, τ)) : xf_V X pc L (.ref (xw_a P (18 + r)) :: st) (σ, τ) := xf_get hX np hp xin_RD (18 + r) (xw_at_rd hr) rfl 2 (by decide) hl rfl hd kk
theorem xg_RD_state (hX : xf_ok X l own cc nL fr lo (xw_W P) D tys) (np : Nat) (hp : pc + 3 = np) {r : Nat} (hr : r < 3) (hl : Cond.fieldLink own idx (xnT_RD 3).1 (xnT_RD 3).2.1 (xnT_RD 3).2.2.1 ∈ xf_GW) (hd : decode cc pc = .ok (.getfield idx, 3)) (kk : xf_V X np L (.int (σ.1 (24 + 8 * r)) :: st) (σ, τ)) : xf_V X pc L (.ref (xw_a P (18 + r)) :: st) (σ, τ) := xf_get hX np hp xin_RD (18 + r) (xw_at_rd hr) rfl 3 (by decide) hl rfl hd kk
theorem xp_RD_state (hX : xf_ok X l own cc nL fr lo (xw_W P) D tys) (np : Nat) (hp : pc + 3 = np) {r : Nat} (hr : r < 3) {v : Int32} (hl : Cond.fieldLink own idx (xnT_RD 3).1 (xnT_RD 3).2.1 (xnT_RD 3).2.2.1 ∈ xf_GW) (hd : decode cc pc = .ok (.putfield idx, 3)) (kk : xf_V X np L st (xf_I σ (24 + 8 * r) v, τ)) : xf_V X pc L (.int v :: .ref (xw_a P (18 + r)) :: st) (σ, τ) := by
  refine xf_put hX np hp xin_RD xnK_RD xnO_RD xnM_RD (18 + r) (xw_at_rd hr) rfl 3 (by decide) hl rfl (by decide +kernel) (Nat.le_of_ble_eq_true rfl) (σ' := (xf_I σ (24 + 8 * r) v, τ)) ?_ hd kk
  have h9 : r = 0 ∨ r = 1 ∨ r = 2 := by omega
  rcases h9 with rfl | rfl | rfl <;> rfl
theorem xg_RD_copiedValue (hX : xf_ok X l own cc nL fr lo (xw_W P) D tys) (np : Nat) (hp : pc + 3 = np) {r : Nat} (hr : r < 3) (hl : Cond.fieldLink own idx (xnT_RD 4).1 (xnT_RD 4).2.1 (xnT_RD 4).2.2.1 ∈ xf_GW) (hd : decode cc pc = .ok (.getfield idx, 3)) (kk : xf_V X np L (.int (σ.1 (24 + 8 * r + 1)) :: st) (σ, τ)) : xf_V X pc L (.ref (xw_a P (18 + r)) :: st) (σ, τ) := xf_get hX np hp xin_RD (18 + r) (xw_at_rd hr) rfl 4 (by decide) hl rfl hd kk
theorem xp_RD_copiedValue (hX : xf_ok X l own cc nL fr lo (xw_W P) D tys) (np : Nat) (hp : pc + 3 = np) {r : Nat} (hr : r < 3) {v : Int32} (hl : Cond.fieldLink own idx (xnT_RD 4).1 (xnT_RD 4).2.1 (xnT_RD 4).2.2.1 ∈ xf_GW) (hd : decode cc pc = .ok (.putfield idx, 3)) (kk : xf_V X np L st (xf_I σ (24 + 8 * r + 1) v, τ)) : xf_V X pc L (.int v :: .ref (xw_a P (18 + r)) :: st) (σ, τ) := by
  refine xf_put hX np hp xin_RD xnK_RD xnO_RD xnM_RD (18 + r) (xw_at_rd hr) rfl 4 (by decide) hl rfl (by decide +kernel) (Nat.le_of_ble_eq_true rfl) (σ' := (xf_I σ (24 + 8 * r + 1) v, τ)) ?_ hd kk
  have h9 : r = 0 ∨ r = 1 ∨ r = 2 := by omega
  rcases h9 with rfl | rfl | rfl <;> rfl
theorem xg_RD_copiedToken (hX : xf_ok X l own cc nL fr lo (xw_W P) D tys) (np : Nat) (hp : pc + 3 = np) {r : Nat} (hr : r < 3) (hl : Cond.fieldLink own idx (xnT_RD 5).1 (xnT_RD 5).2.1 (xnT_RD 5).2.2.1 ∈ xf_GW) (hd : decode cc pc = .ok (.getfield idx, 3)) (kk : xf_V X np L (.int (σ.1 (24 + 8 * r + 2)) :: st) (σ, τ)) : xf_V X pc L (.ref (xw_a P (18 + r)) :: st) (σ, τ) := xf_get hX np hp xin_RD (18 + r) (xw_at_rd hr) rfl 5 (by decide) hl rfl hd kk
theorem xp_RD_copiedToken (hX : xf_ok X l own cc nL fr lo (xw_W P) D tys) (np : Nat) (hp : pc + 3 = np) {r : Nat} (hr : r < 3) {v : Int32} (hl : Cond.fieldLink own idx (xnT_RD 5).1 (xnT_RD 5).2.1 (xnT_RD 5).2.2.1 ∈ xf_GW) (hd : decode cc pc = .ok (.putfield idx, 3)) (kk : xf_V X np L st (xf_I σ (24 + 8 * r + 2) v, τ)) : xf_V X pc L (.int v :: .ref (xw_a P (18 + r)) :: st) (σ, τ) := by
  refine xf_put hX np hp xin_RD xnK_RD xnO_RD xnM_RD (18 + r) (xw_at_rd hr) rfl 5 (by decide) hl rfl (by decide +kernel) (Nat.le_of_ble_eq_true rfl) (σ' := (xf_I σ (24 + 8 * r + 2) v, τ)) ?_ hd kk
  have h9 : r = 0 ∨ r = 1 ∨ r = 2 := by omega
  rcases h9 with rfl | rfl | rfl <;> rfl
theorem xg_RD_key (hX : xf_ok X l own cc nL fr lo (xw_W P) D tys) (np : Nat) (hp : pc + 3 = np) {r : Nat} (hr : r < 3) (hl : Cond.fieldLink own idx (xnT_RD 6).1 (xnT_RD 6).2.1 (xnT_RD 6).2.2.1 ∈ xf_GW) (hd : decode cc pc = .ok (.getfield idx, 3)) (kk : xf_V X np L (.int (σ.1 (24 + 8 * r + 3)) :: st) (σ, τ)) : xf_V X pc L (.ref (xw_a P (18 + r)) :: st) (σ, τ) := xf_get hX np hp xin_RD (18 + r) (xw_at_rd hr) rfl 6 (by decide) hl rfl hd kk
theorem xp_RD_key (hX : xf_ok X l own cc nL fr lo (xw_W P) D tys) (np : Nat) (hp : pc + 3 = np) {r : Nat} (hr : r < 3) {v : Int32} (hl : Cond.fieldLink own idx (xnT_RD 6).1 (xnT_RD 6).2.1 (xnT_RD 6).2.2.1 ∈ xf_GW) (hd : decode cc pc = .ok (.putfield idx, 3)) (kk : xf_V X np L st (xf_I σ (24 + 8 * r + 3) v, τ)) : xf_V X pc L (.int v :: .ref (xw_a P (18 + r)) :: st) (σ, τ) := by
  refine xf_put hX np hp xin_RD xnK_RD xnO_RD xnM_RD (18 + r) (xw_at_rd hr) rfl 6 (by decide) hl rfl (by decide +kernel) (Nat.le_of_ble_eq_true rfl) (σ' := (xf_I σ (24 + 8 * r + 3) v, τ)) ?_ hd kk
  have h9 : r = 0 ∨ r = 1 ∨ r = 2 := by omega
  rcases h9 with rfl | rfl | rfl <;> rfl
theorem xg_RD_retries (hX : xf_ok X l own cc nL fr lo (xw_W P) D tys) (np : Nat) (hp : pc + 3 = np) {r : Nat} (hr : r < 3) (hl : Cond.fieldLink own idx (xnT_RD 7).1 (xnT_RD 7).2.1 (xnT_RD 7).2.2.1 ∈ xf_GW) (hd : decode cc pc = .ok (.getfield idx, 3)) (kk : xf_V X np L (.int (σ.1 (24 + 8 * r + 4)) :: st) (σ, τ)) : xf_V X pc L (.ref (xw_a P (18 + r)) :: st) (σ, τ) := xf_get hX np hp xin_RD (18 + r) (xw_at_rd hr) rfl 7 (by decide) hl rfl hd kk
theorem xp_RD_retries (hX : xf_ok X l own cc nL fr lo (xw_W P) D tys) (np : Nat) (hp : pc + 3 = np) {r : Nat} (hr : r < 3) {v : Int32} (hl : Cond.fieldLink own idx (xnT_RD 7).1 (xnT_RD 7).2.1 (xnT_RD 7).2.2.1 ∈ xf_GW) (hd : decode cc pc = .ok (.putfield idx, 3)) (kk : xf_V X np L st (xf_I σ (24 + 8 * r + 4) v, τ)) : xf_V X pc L (.int v :: .ref (xw_a P (18 + r)) :: st) (σ, τ) := by
  refine xf_put hX np hp xin_RD xnK_RD xnO_RD xnM_RD (18 + r) (xw_at_rd hr) rfl 7 (by decide) hl rfl (by decide +kernel) (Nat.le_of_ble_eq_true rfl) (σ' := (xf_I σ (24 + 8 * r + 4) v, τ)) ?_ hd kk
  have h9 : r = 0 ∨ r = 1 ∨ r = 2 := by omega
  rcases h9 with rfl | rfl | rfl <;> rfl
theorem xg_RD_keptVersion (hX : xf_ok X l own cc nL fr lo (xw_W P) D tys) (np : Nat) (hp : pc + 3 = np) {r : Nat} (hr : r < 3) (hl : Cond.fieldLink own idx (xnT_RD 8).1 (xnT_RD 8).2.1 (xnT_RD 8).2.2.1 ∈ xf_GW) (hd : decode cc pc = .ok (.getfield idx, 3)) (kk : xf_V X np L (.int (σ.1 (24 + 8 * r + 5)) :: st) (σ, τ)) : xf_V X pc L (.ref (xw_a P (18 + r)) :: st) (σ, τ) := xf_get hX np hp xin_RD (18 + r) (xw_at_rd hr) rfl 8 (by decide) hl rfl hd kk
theorem xp_RD_keptVersion (hX : xf_ok X l own cc nL fr lo (xw_W P) D tys) (np : Nat) (hp : pc + 3 = np) {r : Nat} (hr : r < 3) {v : Int32} (hl : Cond.fieldLink own idx (xnT_RD 8).1 (xnT_RD 8).2.1 (xnT_RD 8).2.2.1 ∈ xf_GW) (hd : decode cc pc = .ok (.putfield idx, 3)) (kk : xf_V X np L st (xf_I σ (24 + 8 * r + 5) v, τ)) : xf_V X pc L (.int v :: .ref (xw_a P (18 + r)) :: st) (σ, τ) := by
  refine xf_put hX np hp xin_RD xnK_RD xnO_RD xnM_RD (18 + r) (xw_at_rd hr) rfl 8 (by decide) hl rfl (by decide +kernel) (Nat.le_of_ble_eq_true rfl) (σ' := (xf_I σ (24 + 8 * r + 5) v, τ)) ?_ hd kk
  have h9 : r = 0 ∨ r = 1 ∨ r = 2 := by omega
  rcases h9 with rfl | rfl | rfl <;> rfl
theorem xg_RD_keptItem (hX : xf_ok X l own cc nL fr lo (xw_W P) D tys) (np : Nat) (hp : pc + 3 = np) {r : Nat} (hr : r < 3) (hl : Cond.fieldLink own idx (xnT_RD 9).1 (xnT_RD 9).2.1 (xnT_RD 9).2.2.1 ∈ xf_GW) (hd : decode cc pc = .ok (.getfield idx, 3)) (kk : xf_V X np L (.int (σ.1 (24 + 8 * r + 6)) :: st) (σ, τ)) : xf_V X pc L (.ref (xw_a P (18 + r)) :: st) (σ, τ) := xf_get hX np hp xin_RD (18 + r) (xw_at_rd hr) rfl 9 (by decide) hl rfl hd kk
theorem xp_RD_keptItem (hX : xf_ok X l own cc nL fr lo (xw_W P) D tys) (np : Nat) (hp : pc + 3 = np) {r : Nat} (hr : r < 3) {v : Int32} (hl : Cond.fieldLink own idx (xnT_RD 9).1 (xnT_RD 9).2.1 (xnT_RD 9).2.2.1 ∈ xf_GW) (hd : decode cc pc = .ok (.putfield idx, 3)) (kk : xf_V X np L st (xf_I σ (24 + 8 * r + 6) v, τ)) : xf_V X pc L (.int v :: .ref (xw_a P (18 + r)) :: st) (σ, τ) := by
  refine xf_put hX np hp xin_RD xnK_RD xnO_RD xnM_RD (18 + r) (xw_at_rd hr) rfl 9 (by decide) hl rfl (by decide +kernel) (Nat.le_of_ble_eq_true rfl) (σ' := (xf_I σ (24 + 8 * r + 6) v, τ)) ?_ hd kk
  have h9 : r = 0 ∨ r = 1 ∨ r = 2 := by omega
  rcases h9 with rfl | rfl | rfl <;> rfl
theorem xg_RD_copiedExpiry (hX : xf_ok X l own cc nL fr lo (xw_W P) D tys) (np : Nat) (hp : pc + 3 = np) {r : Nat} (hr : r < 3) (hl : Cond.fieldLink own idx (xnT_RD 10).1 (xnT_RD 10).2.1 (xnT_RD 10).2.2.1 ∈ xf_GW) (hd : decode cc pc = .ok (.getfield idx, 3)) (kk : xf_V X np L (.int (σ.1 (24 + 8 * r + 7)) :: st) (σ, τ)) : xf_V X pc L (.ref (xw_a P (18 + r)) :: st) (σ, τ) := xf_get hX np hp xin_RD (18 + r) (xw_at_rd hr) rfl 10 (by decide) hl rfl hd kk
theorem xp_RD_copiedExpiry (hX : xf_ok X l own cc nL fr lo (xw_W P) D tys) (np : Nat) (hp : pc + 3 = np) {r : Nat} (hr : r < 3) {v : Int32} (hl : Cond.fieldLink own idx (xnT_RD 10).1 (xnT_RD 10).2.1 (xnT_RD 10).2.2.1 ∈ xf_GW) (hd : decode cc pc = .ok (.putfield idx, 3)) (kk : xf_V X np L st (xf_I σ (24 + 8 * r + 7) v, τ)) : xf_V X pc L (.int v :: .ref (xw_a P (18 + r)) :: st) (σ, τ) := by
  refine xf_put hX np hp xin_RD xnK_RD xnO_RD xnM_RD (18 + r) (xw_at_rd hr) rfl 10 (by decide) hl rfl (by decide +kernel) (Nat.le_of_ble_eq_true rfl) (σ' := (xf_I σ (24 + 8 * r + 7) v, τ)) ?_ hd kk
  have h9 : r = 0 ∨ r = 1 ∨ r = 2 := by omega
  rcases h9 with rfl | rfl | rfl <;> rfl
theorem xg_MO_items (hX : xf_ok X l own cc nL fr lo (xw_W P) D tys) (np : Nat) (hp : pc + 3 = np) (hl : Cond.fieldLink own idx (xnT_MO 0).1 (xnT_MO 0).2.1 (xnT_MO 0).2.2.1 ∈ xf_GW) (hd : decode cc pc = .ok (.getfield idx, 3)) (kk : xf_V X np L (.int (nI (xw_n P)) :: st) (σ, τ)) : xf_V X pc L (.ref (xw_a P 100) :: st) (σ, τ) := xf_get hX np hp xin_MO 21 rfl rfl 0 (by decide) hl rfl hd kk
theorem xg_MO_ways (hX : xf_ok X l own cc nL fr lo (xw_W P) D tys) (np : Nat) (hp : pc + 3 = np) (hl : Cond.fieldLink own idx (xnT_MO 1).1 (xnT_MO 1).2.1 (xnT_MO 1).2.2.1 ∈ xf_GW) (hd : decode cc pc = .ok (.getfield idx, 3)) (kk : xf_V X np L (.int (nI (xw_w P)) :: st) (σ, τ)) : xf_V X pc L (.ref (xw_a P 100) :: st) (σ, τ) := xf_get hX np hp xin_MO 21 rfl rfl 1 (by decide) hl rfl hd kk
theorem xg_MO_time (hX : xf_ok X l own cc nL fr lo (xw_W P) D tys) (np : Nat) (hp : pc + 3 = np) (hl : Cond.fieldLink own idx (xnT_MO 2).1 (xnT_MO 2).2.1 (xnT_MO 2).2.2.1 ∈ xf_GW) (hd : decode cc pc = .ok (.getfield idx, 3)) (kk : xf_V X np L (.int (τ.1 0) :: st) (σ, τ)) : xf_V X pc L (.ref (xw_a P 100) :: st) (σ, τ) := xf_get hX np hp xin_MO 21 rfl rfl 2 (by decide) hl rfl hd kk
theorem xp_MO_time (hX : xf_ok X l own cc nL fr lo (xw_W P) D tys) (np : Nat) (hp : pc + 3 = np) {v : Int32} (hl : Cond.fieldLink own idx (xnT_MO 2).1 (xnT_MO 2).2.1 (xnT_MO 2).2.2.1 ∈ xf_GW) (hd : decode cc pc = .ok (.putfield idx, 3)) (kk : xf_V X np L st (σ, xf_I τ 0 v)) : xf_V X pc L (.int v :: .ref (xw_a P 100) :: st) (σ, τ) := xf_put hX np hp xin_MO xnK_MO xnO_MO xnM_MO 21 rfl rfl 2 (by decide) hl rfl (by decide +kernel) (Nat.le_of_ble_eq_true rfl) (σ' := (σ, xf_I τ 0 v)) rfl hd kk
theorem xg_MO_hand (hX : xf_ok X l own cc nL fr lo (xw_W P) D tys) (np : Nat) (hp : pc + 3 = np) (hl : Cond.fieldLink own idx (xnT_MO 3).1 (xnT_MO 3).2.1 (xnT_MO 3).2.2.1 ∈ xf_GW) (hd : decode cc pc = .ok (.getfield idx, 3)) (kk : xf_V X np L (.int (τ.1 1) :: st) (σ, τ)) : xf_V X pc L (.ref (xw_a P 100) :: st) (σ, τ) := xf_get hX np hp xin_MO 21 rfl rfl 3 (by decide) hl rfl hd kk
theorem xp_MO_hand (hX : xf_ok X l own cc nL fr lo (xw_W P) D tys) (np : Nat) (hp : pc + 3 = np) {v : Int32} (hl : Cond.fieldLink own idx (xnT_MO 3).1 (xnT_MO 3).2.1 (xnT_MO 3).2.2.1 ∈ xf_GW) (hd : decode cc pc = .ok (.putfield idx, 3)) (kk : xf_V X np L st (σ, xf_I τ 1 v)) : xf_V X pc L (.int v :: .ref (xw_a P 100) :: st) (σ, τ) := xf_put hX np hp xin_MO xnK_MO xnO_MO xnM_MO 21 rfl rfl 3 (by decide) hl rfl (by decide +kernel) (Nat.le_of_ble_eq_true rfl) (σ' := (σ, xf_I τ 1 v)) rfl hd kk
theorem xg_MO_tokens (hX : xf_ok X l own cc nL fr lo (xw_W P) D tys) (np : Nat) (hp : pc + 3 = np) (hl : Cond.fieldLink own idx (xnT_MO 4).1 (xnT_MO 4).2.1 (xnT_MO 4).2.2.1 ∈ xf_GW) (hd : decode cc pc = .ok (.getfield idx, 3)) (kk : xf_V X np L (.int (τ.1 2) :: st) (σ, τ)) : xf_V X pc L (.ref (xw_a P 100) :: st) (σ, τ) := xf_get hX np hp xin_MO 21 rfl rfl 4 (by decide) hl rfl hd kk
theorem xp_MO_tokens (hX : xf_ok X l own cc nL fr lo (xw_W P) D tys) (np : Nat) (hp : pc + 3 = np) {v : Int32} (hl : Cond.fieldLink own idx (xnT_MO 4).1 (xnT_MO 4).2.1 (xnT_MO 4).2.2.1 ∈ xf_GW) (hd : decode cc pc = .ok (.putfield idx, 3)) (kk : xf_V X np L st (σ, xf_I τ 2 v)) : xf_V X pc L (.int v :: .ref (xw_a P 100) :: st) (σ, τ) := xf_put hX np hp xin_MO xnK_MO xnO_MO xnM_MO 21 rfl rfl 4 (by decide) hl rfl (by decide +kernel) (Nat.le_of_ble_eq_true rfl) (σ' := (σ, xf_I τ 2 v)) rfl hd kk
theorem xg_MO_held (hX : xf_ok X l own cc nL fr lo (xw_W P) D tys) (np : Nat) (hp : pc + 3 = np) (hl : Cond.fieldLink own idx (xnT_MO 5).1 (xnT_MO 5).2.1 (xnT_MO 5).2.2.1 ∈ xf_GW) (hd : decode cc pc = .ok (.getfield idx, 3)) (kk : xf_V X np L (.ref (xw_a P 101) :: st) (σ, τ)) : xf_V X pc L (.ref (xw_a P 100) :: st) (σ, τ) := xf_get hX np hp xin_MO 21 rfl rfl 5 (by decide) hl rfl hd kk
theorem xg_MO_taken (hX : xf_ok X l own cc nL fr lo (xw_W P) D tys) (np : Nat) (hp : pc + 3 = np) (hl : Cond.fieldLink own idx (xnT_MO 6).1 (xnT_MO 6).2.1 (xnT_MO 6).2.2.1 ∈ xf_GW) (hd : decode cc pc = .ok (.getfield idx, 3)) (kk : xf_V X np L (.ref (xw_a P 102) :: st) (σ, τ)) : xf_V X pc L (.ref (xw_a P 100) :: st) (σ, τ) := xf_get hX np hp xin_MO 21 rfl rfl 6 (by decide) hl rfl hd kk
theorem xg_MO_keys (hX : xf_ok X l own cc nL fr lo (xw_W P) D tys) (np : Nat) (hp : pc + 3 = np) (hl : Cond.fieldLink own idx (xnT_MO 7).1 (xnT_MO 7).2.1 (xnT_MO 7).2.2.1 ∈ xf_GW) (hd : decode cc pc = .ok (.getfield idx, 3)) (kk : xf_V X np L (.ref (xw_a P 103) :: st) (σ, τ)) : xf_V X pc L (.ref (xw_a P 100) :: st) (σ, τ) := xf_get hX np hp xin_MO 21 rfl rfl 7 (by decide) hl rfl hd kk
theorem xg_MO_values (hX : xf_ok X l own cc nL fr lo (xw_W P) D tys) (np : Nat) (hp : pc + 3 = np) (hl : Cond.fieldLink own idx (xnT_MO 8).1 (xnT_MO 8).2.1 (xnT_MO 8).2.2.1 ∈ xf_GW) (hd : decode cc pc = .ok (.getfield idx, 3)) (kk : xf_V X np L (.ref (xw_a P 104) :: st) (σ, τ)) : xf_V X pc L (.ref (xw_a P 100) :: st) (σ, τ) := xf_get hX np hp xin_MO 21 rfl rfl 8 (by decide) hl rfl hd kk
theorem xg_MO_marks (hX : xf_ok X l own cc nL fr lo (xw_W P) D tys) (np : Nat) (hp : pc + 3 = np) (hl : Cond.fieldLink own idx (xnT_MO 9).1 (xnT_MO 9).2.1 (xnT_MO 9).2.2.1 ∈ xf_GW) (hd : decode cc pc = .ok (.getfield idx, 3)) (kk : xf_V X np L (.ref (xw_a P 105) :: st) (σ, τ)) : xf_V X pc L (.ref (xw_a P 100) :: st) (σ, τ) := xf_get hX np hp xin_MO 21 rfl rfl 9 (by decide) hl rfl hd kk
theorem xg_MO_ends (hX : xf_ok X l own cc nL fr lo (xw_W P) D tys) (np : Nat) (hp : pc + 3 = np) (hl : Cond.fieldLink own idx (xnT_MO 10).1 (xnT_MO 10).2.1 (xnT_MO 10).2.2.1 ∈ xf_GW) (hd : decode cc pc = .ok (.getfield idx, 3)) (kk : xf_V X np L (.ref (xw_a P 106) :: st) (σ, τ)) : xf_V X pc L (.ref (xw_a P 100) :: st) (σ, τ) := xf_get hX np hp xin_MO 21 rfl rfl 10 (by decide) hl rfl hd kk
theorem xg_MO_bits (hX : xf_ok X l own cc nL fr lo (xw_W P) D tys) (np : Nat) (hp : pc + 3 = np) (hl : Cond.fieldLink own idx (xnT_MO 11).1 (xnT_MO 11).2.1 (xnT_MO 11).2.2.1 ∈ xf_GW) (hd : decode cc pc = .ok (.getfield idx, 3)) (kk : xf_V X np L (.ref (xw_a P 107) :: st) (σ, τ)) : xf_V X pc L (.ref (xw_a P 100) :: st) (σ, τ) := xf_get hX np hp xin_MO 21 rfl rfl 11 (by decide) hl rfl hd kk
theorem xg_MO_versions (hX : xf_ok X l own cc nL fr lo (xw_W P) D tys) (np : Nat) (hp : pc + 3 = np) (hl : Cond.fieldLink own idx (xnT_MO 12).1 (xnT_MO 12).2.1 (xnT_MO 12).2.2.1 ∈ xf_GW) (hd : decode cc pc = .ok (.getfield idx, 3)) (kk : xf_V X np L (.ref (xw_a P 108) :: st) (σ, τ)) : xf_V X pc L (.ref (xw_a P 100) :: st) (σ, τ) := xf_get hX np hp xin_MO 21 rfl rfl 12 (by decide) hl rfl hd kk
theorem xg_MO_next (hX : xf_ok X l own cc nL fr lo (xw_W P) D tys) (np : Nat) (hp : pc + 3 = np) (hl : Cond.fieldLink own idx (xnT_MO 13).1 (xnT_MO 13).2.1 (xnT_MO 13).2.2.1 ∈ xf_GW) (hd : decode cc pc = .ok (.getfield idx, 3)) (kk : xf_V X np L (.int (τ.1 3) :: st) (σ, τ)) : xf_V X pc L (.ref (xw_a P 100) :: st) (σ, τ) := xf_get hX np hp xin_MO 21 rfl rfl 13 (by decide) hl rfl hd kk
theorem xp_MO_next (hX : xf_ok X l own cc nL fr lo (xw_W P) D tys) (np : Nat) (hp : pc + 3 = np) {v : Int32} (hl : Cond.fieldLink own idx (xnT_MO 13).1 (xnT_MO 13).2.1 (xnT_MO 13).2.2.1 ∈ xf_GW) (hd : decode cc pc = .ok (.putfield idx, 3)) (kk : xf_V X np L st (σ, xf_I τ 3 v)) : xf_V X pc L (.int v :: .ref (xw_a P 100) :: st) (σ, τ) := xf_put hX np hp xin_MO xnK_MO xnO_MO xnM_MO 21 rfl rfl 13 (by decide) hl rfl (by decide +kernel) (Nat.le_of_ble_eq_true rfl) (σ' := (σ, xf_I τ 3 v)) rfl hd kk
theorem xg_MO_result (hX : xf_ok X l own cc nL fr lo (xw_W P) D tys) (np : Nat) (hp : pc + 3 = np) (hl : Cond.fieldLink own idx (xnT_MO 14).1 (xnT_MO 14).2.1 (xnT_MO 14).2.2.1 ∈ xf_GW) (hd : decode cc pc = .ok (.getfield idx, 3)) (kk : xf_V X np L (.int (τ.1 4) :: st) (σ, τ)) : xf_V X pc L (.ref (xw_a P 100) :: st) (σ, τ) := xf_get hX np hp xin_MO 21 rfl rfl 14 (by decide) hl rfl hd kk
theorem xp_MO_result (hX : xf_ok X l own cc nL fr lo (xw_W P) D tys) (np : Nat) (hp : pc + 3 = np) {v : Int32} (hl : Cond.fieldLink own idx (xnT_MO 14).1 (xnT_MO 14).2.1 (xnT_MO 14).2.2.1 ∈ xf_GW) (hd : decode cc pc = .ok (.putfield idx, 3)) (kk : xf_V X np L st (σ, xf_I τ 4 v)) : xf_V X pc L (.int v :: .ref (xw_a P 100) :: st) (σ, τ) := xf_put hX np hp xin_MO xnK_MO xnO_MO xnM_MO 21 rfl rfl 14 (by decide) hl rfl (by decide +kernel) (Nat.le_of_ble_eq_true rfl) (σ' := (σ, xf_I τ 4 v)) rfl hd kk
theorem xg_MO_kind (hX : xf_ok X l own cc nL fr lo (xw_W P) D tys) (np : Nat) (hp : pc + 3 = np) (hl : Cond.fieldLink own idx (xnT_MO 15).1 (xnT_MO 15).2.1 (xnT_MO 15).2.2.1 ∈ xf_GW) (hd : decode cc pc = .ok (.getfield idx, 3)) (kk : xf_V X np L (.int (τ.1 5) :: st) (σ, τ)) : xf_V X pc L (.ref (xw_a P 100) :: st) (σ, τ) := xf_get hX np hp xin_MO 21 rfl rfl 15 (by decide) hl rfl hd kk
theorem xp_MO_kind (hX : xf_ok X l own cc nL fr lo (xw_W P) D tys) (np : Nat) (hp : pc + 3 = np) {v : Int32} (hl : Cond.fieldLink own idx (xnT_MO 15).1 (xnT_MO 15).2.1 (xnT_MO 15).2.2.1 ∈ xf_GW) (hd : decode cc pc = .ok (.putfield idx, 3)) (kk : xf_V X np L st (σ, xf_I τ 5 v)) : xf_V X pc L (.int v :: .ref (xw_a P 100) :: st) (σ, τ) := xf_put hX np hp xin_MO xnK_MO xnO_MO xnM_MO 21 rfl rfl 15 (by decide) hl rfl (by decide +kernel) (Nat.le_of_ble_eq_true rfl) (σ' := (σ, xf_I τ 5 v)) rfl hd kk
theorem xg_MO_key (hX : xf_ok X l own cc nL fr lo (xw_W P) D tys) (np : Nat) (hp : pc + 3 = np) (hl : Cond.fieldLink own idx (xnT_MO 16).1 (xnT_MO 16).2.1 (xnT_MO 16).2.2.1 ∈ xf_GW) (hd : decode cc pc = .ok (.getfield idx, 3)) (kk : xf_V X np L (.int (τ.1 6) :: st) (σ, τ)) : xf_V X pc L (.ref (xw_a P 100) :: st) (σ, τ) := xf_get hX np hp xin_MO 21 rfl rfl 16 (by decide) hl rfl hd kk
theorem xp_MO_key (hX : xf_ok X l own cc nL fr lo (xw_W P) D tys) (np : Nat) (hp : pc + 3 = np) {v : Int32} (hl : Cond.fieldLink own idx (xnT_MO 16).1 (xnT_MO 16).2.1 (xnT_MO 16).2.2.1 ∈ xf_GW) (hd : decode cc pc = .ok (.putfield idx, 3)) (kk : xf_V X np L st (σ, xf_I τ 6 v)) : xf_V X pc L (.int v :: .ref (xw_a P 100) :: st) (σ, τ) := xf_put hX np hp xin_MO xnK_MO xnO_MO xnM_MO 21 rfl rfl 16 (by decide) hl rfl (by decide +kernel) (Nat.le_of_ble_eq_true rfl) (σ' := (σ, xf_I τ 6 v)) rfl hd kk
theorem xg_MO_put (hX : xf_ok X l own cc nL fr lo (xw_W P) D tys) (np : Nat) (hp : pc + 3 = np) (hl : Cond.fieldLink own idx (xnT_MO 17).1 (xnT_MO 17).2.1 (xnT_MO 17).2.2.1 ∈ xf_GW) (hd : decode cc pc = .ok (.getfield idx, 3)) (kk : xf_V X np L (.int (τ.1 7) :: st) (σ, τ)) : xf_V X pc L (.ref (xw_a P 100) :: st) (σ, τ) := xf_get hX np hp xin_MO 21 rfl rfl 17 (by decide) hl rfl hd kk
theorem xp_MO_put (hX : xf_ok X l own cc nL fr lo (xw_W P) D tys) (np : Nat) (hp : pc + 3 = np) {v : Int32} (hl : Cond.fieldLink own idx (xnT_MO 17).1 (xnT_MO 17).2.1 (xnT_MO 17).2.2.1 ∈ xf_GW) (hd : decode cc pc = .ok (.putfield idx, 3)) (kk : xf_V X np L st (σ, xf_I τ 7 v)) : xf_V X pc L (.int v :: .ref (xw_a P 100) :: st) (σ, τ) := xf_put hX np hp xin_MO xnK_MO xnO_MO xnM_MO 21 rfl rfl 17 (by decide) hl rfl (by decide +kernel) (Nat.le_of_ble_eq_true rfl) (σ' := (σ, xf_I τ 7 v)) rfl hd kk
theorem xg_MO_life (hX : xf_ok X l own cc nL fr lo (xw_W P) D tys) (np : Nat) (hp : pc + 3 = np) (hl : Cond.fieldLink own idx (xnT_MO 18).1 (xnT_MO 18).2.1 (xnT_MO 18).2.2.1 ∈ xf_GW) (hd : decode cc pc = .ok (.getfield idx, 3)) (kk : xf_V X np L (.int (τ.1 8) :: st) (σ, τ)) : xf_V X pc L (.ref (xw_a P 100) :: st) (σ, τ) := xf_get hX np hp xin_MO 21 rfl rfl 18 (by decide) hl rfl hd kk
theorem xp_MO_life (hX : xf_ok X l own cc nL fr lo (xw_W P) D tys) (np : Nat) (hp : pc + 3 = np) {v : Int32} (hl : Cond.fieldLink own idx (xnT_MO 18).1 (xnT_MO 18).2.1 (xnT_MO 18).2.2.1 ∈ xf_GW) (hd : decode cc pc = .ok (.putfield idx, 3)) (kk : xf_V X np L st (σ, xf_I τ 8 v)) : xf_V X pc L (.int v :: .ref (xw_a P 100) :: st) (σ, τ) := xf_put hX np hp xin_MO xnK_MO xnO_MO xnM_MO 21 rfl rfl 18 (by decide) hl rfl (by decide +kernel) (Nat.le_of_ble_eq_true rfl) (σ' := (σ, xf_I τ 8 v)) rfl hd kk
theorem xg_MO_wanted (hX : xf_ok X l own cc nL fr lo (xw_W P) D tys) (np : Nat) (hp : pc + 3 = np) (hl : Cond.fieldLink own idx (xnT_MO 19).1 (xnT_MO 19).2.1 (xnT_MO 19).2.2.1 ∈ xf_GW) (hd : decode cc pc = .ok (.getfield idx, 3)) (kk : xf_V X np L (.int (τ.1 9) :: st) (σ, τ)) : xf_V X pc L (.ref (xw_a P 100) :: st) (σ, τ) := xf_get hX np hp xin_MO 21 rfl rfl 19 (by decide) hl rfl hd kk
theorem xp_MO_wanted (hX : xf_ok X l own cc nL fr lo (xw_W P) D tys) (np : Nat) (hp : pc + 3 = np) {v : Int32} (hl : Cond.fieldLink own idx (xnT_MO 19).1 (xnT_MO 19).2.1 (xnT_MO 19).2.2.1 ∈ xf_GW) (hd : decode cc pc = .ok (.putfield idx, 3)) (kk : xf_V X np L st (σ, xf_I τ 9 v)) : xf_V X pc L (.int v :: .ref (xw_a P 100) :: st) (σ, τ) := xf_put hX np hp xin_MO xnK_MO xnO_MO xnM_MO 21 rfl rfl 19 (by decide) hl rfl (by decide +kernel) (Nat.le_of_ble_eq_true rfl) (σ' := (σ, xf_I τ 9 v)) rfl hd kk
theorem xg_MO_target (hX : xf_ok X l own cc nL fr lo (xw_W P) D tys) (np : Nat) (hp : pc + 3 = np) (hl : Cond.fieldLink own idx (xnT_MO 20).1 (xnT_MO 20).2.1 (xnT_MO 20).2.2.1 ∈ xf_GW) (hd : decode cc pc = .ok (.getfield idx, 3)) (kk : xf_V X np L (.int (τ.1 10) :: st) (σ, τ)) : xf_V X pc L (.ref (xw_a P 100) :: st) (σ, τ) := xf_get hX np hp xin_MO 21 rfl rfl 20 (by decide) hl rfl hd kk
theorem xp_MO_target (hX : xf_ok X l own cc nL fr lo (xw_W P) D tys) (np : Nat) (hp : pc + 3 = np) {v : Int32} (hl : Cond.fieldLink own idx (xnT_MO 20).1 (xnT_MO 20).2.1 (xnT_MO 20).2.2.1 ∈ xf_GW) (hd : decode cc pc = .ok (.putfield idx, 3)) (kk : xf_V X np L st (σ, xf_I τ 10 v)) : xf_V X pc L (.int v :: .ref (xw_a P 100) :: st) (σ, τ) := xf_put hX np hp xin_MO xnK_MO xnO_MO xnM_MO 21 rfl rfl 20 (by decide) hl rfl (by decide +kernel) (Nat.le_of_ble_eq_true rfl) (σ' := (σ, xf_I τ 10 v)) rfl hd kk
theorem xg_MO_last (hX : xf_ok X l own cc nL fr lo (xw_W P) D tys) (np : Nat) (hp : pc + 3 = np) (hl : Cond.fieldLink own idx (xnT_MO 21).1 (xnT_MO 21).2.1 (xnT_MO 21).2.2.1 ∈ xf_GW) (hd : decode cc pc = .ok (.getfield idx, 3)) (kk : xf_V X np L (.int (τ.1 11) :: st) (σ, τ)) : xf_V X pc L (.ref (xw_a P 100) :: st) (σ, τ) := xf_get hX np hp xin_MO 21 rfl rfl 21 (by decide) hl rfl hd kk
theorem xp_MO_last (hX : xf_ok X l own cc nL fr lo (xw_W P) D tys) (np : Nat) (hp : pc + 3 = np) {v : Int32} (hl : Cond.fieldLink own idx (xnT_MO 21).1 (xnT_MO 21).2.1 (xnT_MO 21).2.2.1 ∈ xf_GW) (hd : decode cc pc = .ok (.putfield idx, 3)) (kk : xf_V X np L st (σ, xf_I τ 11 v)) : xf_V X pc L (.int v :: .ref (xw_a P 100) :: st) (σ, τ) := xf_put hX np hp xin_MO xnK_MO xnO_MO xnM_MO 21 rfl rfl 21 (by decide) hl rfl (by decide +kernel) (Nat.le_of_ble_eq_true rfl) (σ' := (σ, xf_I τ 11 v)) rfl hd kk
theorem xg_MO_from (hX : xf_ok X l own cc nL fr lo (xw_W P) D tys) (np : Nat) (hp : pc + 3 = np) (hl : Cond.fieldLink own idx (xnT_MO 22).1 (xnT_MO 22).2.1 (xnT_MO 22).2.2.1 ∈ xf_GW) (hd : decode cc pc = .ok (.getfield idx, 3)) (kk : xf_V X np L (.int (τ.1 12) :: st) (σ, τ)) : xf_V X pc L (.ref (xw_a P 100) :: st) (σ, τ) := xf_get hX np hp xin_MO 21 rfl rfl 22 (by decide) hl rfl hd kk
theorem xp_MO_from (hX : xf_ok X l own cc nL fr lo (xw_W P) D tys) (np : Nat) (hp : pc + 3 = np) {v : Int32} (hl : Cond.fieldLink own idx (xnT_MO 22).1 (xnT_MO 22).2.1 (xnT_MO 22).2.2.1 ∈ xf_GW) (hd : decode cc pc = .ok (.putfield idx, 3)) (kk : xf_V X np L st (σ, xf_I τ 12 v)) : xf_V X pc L (.int v :: .ref (xw_a P 100) :: st) (σ, τ) := xf_put hX np hp xin_MO xnK_MO xnO_MO xnM_MO 21 rfl rfl 22 (by decide) hl rfl (by decide +kernel) (Nat.le_of_ble_eq_true rfl) (σ' := (σ, xf_I τ 12 v)) rfl hd kk
theorem xg_MO_path (hX : xf_ok X l own cc nL fr lo (xw_W P) D tys) (np : Nat) (hp : pc + 3 = np) (hl : Cond.fieldLink own idx (xnT_MO 23).1 (xnT_MO 23).2.1 (xnT_MO 23).2.2.1 ∈ xf_GW) (hd : decode cc pc = .ok (.getfield idx, 3)) (kk : xf_V X np L (.ref (xw_a P 109) :: st) (σ, τ)) : xf_V X pc L (.ref (xw_a P 100) :: st) (σ, τ) := xf_get hX np hp xin_MO 21 rfl rfl 23 (by decide) hl rfl hd kk
theorem xg_MO_states (hX : xf_ok X l own cc nL fr lo (xw_W P) D tys) (np : Nat) (hp : pc + 3 = np) (hl : Cond.fieldLink own idx (xnT_MO 24).1 (xnT_MO 24).2.1 (xnT_MO 24).2.2.1 ∈ xf_GW) (hd : decode cc pc = .ok (.getfield idx, 3)) (kk : xf_V X np L (.ref (xw_a P 110) :: st) (σ, τ)) : xf_V X pc L (.ref (xw_a P 100) :: st) (σ, τ) := xf_get hX np hp xin_MO 21 rfl rfl 24 (by decide) hl rfl hd kk
theorem xg_MO_sought (hX : xf_ok X l own cc nL fr lo (xw_W P) D tys) (np : Nat) (hp : pc + 3 = np) (hl : Cond.fieldLink own idx (xnT_MO 25).1 (xnT_MO 25).2.1 (xnT_MO 25).2.2.1 ∈ xf_GW) (hd : decode cc pc = .ok (.getfield idx, 3)) (kk : xf_V X np L (.ref (xw_a P 111) :: st) (σ, τ)) : xf_V X pc L (.ref (xw_a P 100) :: st) (σ, τ) := xf_get hX np hp xin_MO 21 rfl rfl 25 (by decide) hl rfl hd kk
theorem xg_MO_kept (hX : xf_ok X l own cc nL fr lo (xw_W P) D tys) (np : Nat) (hp : pc + 3 = np) (hl : Cond.fieldLink own idx (xnT_MO 26).1 (xnT_MO 26).2.1 (xnT_MO 26).2.2.1 ∈ xf_GW) (hd : decode cc pc = .ok (.getfield idx, 3)) (kk : xf_V X np L (.ref (xw_a P 112) :: st) (σ, τ)) : xf_V X pc L (.ref (xw_a P 100) :: st) (σ, τ) := xf_get hX np hp xin_MO 21 rfl rfl 26 (by decide) hl rfl hd kk
theorem xg_MO_retries (hX : xf_ok X l own cc nL fr lo (xw_W P) D tys) (np : Nat) (hp : pc + 3 = np) (hl : Cond.fieldLink own idx (xnT_MO 27).1 (xnT_MO 27).2.1 (xnT_MO 27).2.2.1 ∈ xf_GW) (hd : decode cc pc = .ok (.getfield idx, 3)) (kk : xf_V X np L (.ref (xw_a P 113) :: st) (σ, τ)) : xf_V X pc L (.ref (xw_a P 100) :: st) (σ, τ) := xf_get hX np hp xin_MO 21 rfl rfl 27 (by decide) hl rfl hd kk
theorem xg_MO_got (hX : xf_ok X l own cc nL fr lo (xw_W P) D tys) (np : Nat) (hp : pc + 3 = np) (hl : Cond.fieldLink own idx (xnT_MO 28).1 (xnT_MO 28).2.1 (xnT_MO 28).2.2.1 ∈ xf_GW) (hd : decode cc pc = .ok (.getfield idx, 3)) (kk : xf_V X np L (.ref (xw_a P 114) :: st) (σ, τ)) : xf_V X pc L (.ref (xw_a P 100) :: st) (σ, τ) := xf_get hX np hp xin_MO 21 rfl rfl 28 (by decide) hl rfl hd kk
theorem xg_MO_copied (hX : xf_ok X l own cc nL fr lo (xw_W P) D tys) (np : Nat) (hp : pc + 3 = np) (hl : Cond.fieldLink own idx (xnT_MO 29).1 (xnT_MO 29).2.1 (xnT_MO 29).2.2.1 ∈ xf_GW) (hd : decode cc pc = .ok (.getfield idx, 3)) (kk : xf_V X np L (.ref (xw_a P 115) :: st) (σ, τ)) : xf_V X pc L (.ref (xw_a P 100) :: st) (σ, τ) := xf_get hX np hp xin_MO 21 rfl rfl 29 (by decide) hl rfl hd kk
theorem xg_MO_copiedMark (hX : xf_ok X l own cc nL fr lo (xw_W P) D tys) (np : Nat) (hp : pc + 3 = np) (hl : Cond.fieldLink own idx (xnT_MO 30).1 (xnT_MO 30).2.1 (xnT_MO 30).2.2.1 ∈ xf_GW) (hd : decode cc pc = .ok (.getfield idx, 3)) (kk : xf_V X np L (.ref (xw_a P 116) :: st) (σ, τ)) : xf_V X pc L (.ref (xw_a P 100) :: st) (σ, τ) := xf_get hX np hp xin_MO 21 rfl rfl 30 (by decide) hl rfl hd kk
theorem xg_MO_copiedEnd (hX : xf_ok X l own cc nL fr lo (xw_W P) D tys) (np : Nat) (hp : pc + 3 = np) (hl : Cond.fieldLink own idx (xnT_MO 31).1 (xnT_MO 31).2.1 (xnT_MO 31).2.2.1 ∈ xf_GW) (hd : decode cc pc = .ok (.getfield idx, 3)) (kk : xf_V X np L (.ref (xw_a P 117) :: st) (σ, τ)) : xf_V X pc L (.ref (xw_a P 100) :: st) (σ, τ) := xf_get hX np hp xin_MO 21 rfl rfl 31 (by decide) hl rfl hd kk
theorem xg_MO_evictions (hX : xf_ok X l own cc nL fr lo (xw_W P) D tys) (np : Nat) (hp : pc + 3 = np) (hl : Cond.fieldLink own idx (xnT_MO 32).1 (xnT_MO 32).2.1 (xnT_MO 32).2.2.1 ∈ xf_GW) (hd : decode cc pc = .ok (.getfield idx, 3)) (kk : xf_V X np L (.int (τ.1 13) :: st) (σ, τ)) : xf_V X pc L (.ref (xw_a P 100) :: st) (σ, τ) := xf_get hX np hp xin_MO 21 rfl rfl 32 (by decide) hl rfl hd kk
theorem xp_MO_evictions (hX : xf_ok X l own cc nL fr lo (xw_W P) D tys) (np : Nat) (hp : pc + 3 = np) {v : Int32} (hl : Cond.fieldLink own idx (xnT_MO 32).1 (xnT_MO 32).2.1 (xnT_MO 32).2.2.1 ∈ xf_GW) (hd : decode cc pc = .ok (.putfield idx, 3)) (kk : xf_V X np L st (σ, xf_I τ 13 v)) : xf_V X pc L (.int v :: .ref (xw_a P 100) :: st) (σ, τ) := xf_put hX np hp xin_MO xnK_MO xnO_MO xnM_MO 21 rfl rfl 32 (by decide) hl rfl (by decide +kernel) (Nat.le_of_ble_eq_true rfl) (σ' := (σ, xf_I τ 13 v)) rfl hd kk
theorem xg_MO_moves (hX : xf_ok X l own cc nL fr lo (xw_W P) D tys) (np : Nat) (hp : pc + 3 = np) (hl : Cond.fieldLink own idx (xnT_MO 33).1 (xnT_MO 33).2.1 (xnT_MO 33).2.2.1 ∈ xf_GW) (hd : decode cc pc = .ok (.getfield idx, 3)) (kk : xf_V X np L (.int (τ.1 14) :: st) (σ, τ)) : xf_V X pc L (.ref (xw_a P 100) :: st) (σ, τ) := xf_get hX np hp xin_MO 21 rfl rfl 33 (by decide) hl rfl hd kk
theorem xp_MO_moves (hX : xf_ok X l own cc nL fr lo (xw_W P) D tys) (np : Nat) (hp : pc + 3 = np) {v : Int32} (hl : Cond.fieldLink own idx (xnT_MO 33).1 (xnT_MO 33).2.1 (xnT_MO 33).2.2.1 ∈ xf_GW) (hd : decode cc pc = .ok (.putfield idx, 3)) (kk : xf_V X np L st (σ, xf_I τ 14 v)) : xf_V X pc L (.int v :: .ref (xw_a P 100) :: st) (σ, τ) := xf_put hX np hp xin_MO xnK_MO xnO_MO xnM_MO 21 rfl rfl 33 (by decide) hl rfl (by decide +kernel) (Nat.le_of_ble_eq_true rfl) (σ' := (σ, xf_I τ 14 v)) rfl hd kk
theorem xg_MO_allRetries (hX : xf_ok X l own cc nL fr lo (xw_W P) D tys) (np : Nat) (hp : pc + 3 = np) (hl : Cond.fieldLink own idx (xnT_MO 34).1 (xnT_MO 34).2.1 (xnT_MO 34).2.2.1 ∈ xf_GW) (hd : decode cc pc = .ok (.getfield idx, 3)) (kk : xf_V X np L (.int (τ.1 15) :: st) (σ, τ)) : xf_V X pc L (.ref (xw_a P 100) :: st) (σ, τ) := xf_get hX np hp xin_MO 21 rfl rfl 34 (by decide) hl rfl hd kk
theorem xp_MO_allRetries (hX : xf_ok X l own cc nL fr lo (xw_W P) D tys) (np : Nat) (hp : pc + 3 = np) {v : Int32} (hl : Cond.fieldLink own idx (xnT_MO 34).1 (xnT_MO 34).2.1 (xnT_MO 34).2.2.1 ∈ xf_GW) (hd : decode cc pc = .ok (.putfield idx, 3)) (kk : xf_V X np L st (σ, xf_I τ 15 v)) : xf_V X pc L (.int v :: .ref (xw_a P 100) :: st) (σ, τ) := xf_put hX np hp xin_MO xnK_MO xnO_MO xnM_MO 21 rfl rfl 34 (by decide) hl rfl (by decide +kernel) (Nat.le_of_ble_eq_true rfl) (σ' := (σ, xf_I τ 15 v)) rfl hd kk
theorem xg_MO_waits (hX : xf_ok X l own cc nL fr lo (xw_W P) D tys) (np : Nat) (hp : pc + 3 = np) (hl : Cond.fieldLink own idx (xnT_MO 35).1 (xnT_MO 35).2.1 (xnT_MO 35).2.2.1 ∈ xf_GW) (hd : decode cc pc = .ok (.getfield idx, 3)) (kk : xf_V X np L (.int (τ.1 16) :: st) (σ, τ)) : xf_V X pc L (.ref (xw_a P 100) :: st) (σ, τ) := xf_get hX np hp xin_MO 21 rfl rfl 35 (by decide) hl rfl hd kk
theorem xp_MO_waits (hX : xf_ok X l own cc nL fr lo (xw_W P) D tys) (np : Nat) (hp : pc + 3 = np) {v : Int32} (hl : Cond.fieldLink own idx (xnT_MO 35).1 (xnT_MO 35).2.1 (xnT_MO 35).2.2.1 ∈ xf_GW) (hd : decode cc pc = .ok (.putfield idx, 3)) (kk : xf_V X np L st (σ, xf_I τ 16 v)) : xf_V X pc L (.int v :: .ref (xw_a P 100) :: st) (σ, τ) := xf_put hX np hp xin_MO xnK_MO xnO_MO xnM_MO 21 rfl rfl 35 (by decide) hl rfl (by decide +kernel) (Nat.le_of_ble_eq_true rfl) (σ' := (σ, xf_I τ 16 v)) rfl hd kk
theorem xg_MO_near (hX : xf_ok X l own cc nL fr lo (xw_W P) D tys) (np : Nat) (hp : pc + 3 = np) (hl : Cond.fieldLink own idx (xnT_MO 36).1 (xnT_MO 36).2.1 (xnT_MO 36).2.2.1 ∈ xf_GW) (hd : decode cc pc = .ok (.getfield idx, 3)) (kk : xf_V X np L (.int (τ.1 17) :: st) (σ, τ)) : xf_V X pc L (.ref (xw_a P 100) :: st) (σ, τ) := xf_get hX np hp xin_MO 21 rfl rfl 36 (by decide) hl rfl hd kk
theorem xp_MO_near (hX : xf_ok X l own cc nL fr lo (xw_W P) D tys) (np : Nat) (hp : pc + 3 = np) {v : Int32} (hl : Cond.fieldLink own idx (xnT_MO 36).1 (xnT_MO 36).2.1 (xnT_MO 36).2.2.1 ∈ xf_GW) (hd : decode cc pc = .ok (.putfield idx, 3)) (kk : xf_V X np L st (σ, xf_I τ 17 v)) : xf_V X pc L (.int v :: .ref (xw_a P 100) :: st) (σ, τ) := xf_put hX np hp xin_MO xnK_MO xnO_MO xnM_MO 21 rfl rfl 36 (by decide) hl rfl (by decide +kernel) (Nat.le_of_ble_eq_true rfl) (σ' := (σ, xf_I τ 17 v)) rfl hd kk
theorem xg_MO_dead (hX : xf_ok X l own cc nL fr lo (xw_W P) D tys) (np : Nat) (hp : pc + 3 = np) (hl : Cond.fieldLink own idx (xnT_MO 37).1 (xnT_MO 37).2.1 (xnT_MO 37).2.2.1 ∈ xf_GW) (hd : decode cc pc = .ok (.getfield idx, 3)) (kk : xf_V X np L (.int (τ.1 18) :: st) (σ, τ)) : xf_V X pc L (.ref (xw_a P 100) :: st) (σ, τ) := xf_get hX np hp xin_MO 21 rfl rfl 37 (by decide) hl rfl hd kk
theorem xp_MO_dead (hX : xf_ok X l own cc nL fr lo (xw_W P) D tys) (np : Nat) (hp : pc + 3 = np) {v : Int32} (hl : Cond.fieldLink own idx (xnT_MO 37).1 (xnT_MO 37).2.1 (xnT_MO 37).2.2.1 ∈ xf_GW) (hd : decode cc pc = .ok (.putfield idx, 3)) (kk : xf_V X np L st (σ, xf_I τ 18 v)) : xf_V X pc L (.int v :: .ref (xw_a P 100) :: st) (σ, τ) := xf_put hX np hp xin_MO xnK_MO xnO_MO xnM_MO 21 rfl rfl 37 (by decide) hl rfl (by decide +kernel) (Nat.le_of_ble_eq_true rfl) (σ' := (σ, xf_I τ 18 v)) rfl hd kk
def xw_XI : Nat → Bool
  | 5 => true
  | 6 => true
  | 7 => true
  | 8 => true
  | 9 => true
  | 12 => true
  | 14 => true
  | 15 => true
  | 16 => true
  | 17 => true
  | _ => false
theorem xw_XI_or {q : Nat} (hq : xw_XI q = true) : q = 5 ∨ q = 6 ∨ q = 7 ∨ q = 8 ∨ q = 9 ∨ q = 12 ∨ q = 14 ∨ q = 15 ∨ q = 16 ∨ q = 17 := by
  unfold xw_XI at hq
  split at hq <;> first | omega | (cases hq; done)
theorem xaX_iaload (hX : xf_ok X l own cc nL fr lo (xw_W P) D (xw_ty P)) (np : Nat) (hp : pc + 1 = np) {q : Nat} (hq : xw_XI q = true) {i : Int32} (hin : vp_in i (xw_len P q)) (hd : decode cc pc = .ok (.iaload, 1)) (kk : xf_V X np L (.int (σ.2 q i.toNatClampNeg) :: st) (σ, τ)) : xf_V X pc L (.int i :: .ref (xw_a P q) :: st) (σ, τ) := by
  rcases xw_XI_or hq with rfl | rfl | rfl | rfl | rfl | rfl | rfl | rfl | rfl | rfl
  · exact xf_iald hX np hp 5 0 rfl rfl hin hd kk
  · exact xf_iald hX np hp 6 0 rfl rfl hin hd kk
  · exact xf_iald hX np hp 7 0 rfl rfl hin hd kk
  · exact xf_iald hX np hp 8 0 rfl rfl hin hd kk
  · exact xf_iald hX np hp 9 0 rfl rfl hin hd kk
  · exact xf_iald hX np hp 12 0 rfl rfl hin hd kk
  · exact xf_iald hX np hp 14 0 rfl rfl hin hd kk
  · exact xf_iald hX np hp 15 0 rfl rfl hin hd kk
  · exact xf_iald hX np hp 16 0 rfl rfl hin hd kk
  · exact xf_iald hX np hp 17 0 rfl rfl hin hd kk
theorem xaX_iastore (hX : xf_ok X l own cc nL fr lo (xw_W P) D (xw_ty P)) (np : Nat) (hp : pc + 1 = np) {q : Nat} (hq : xw_XI q = true) {i x : Int32} (hin : vp_in i (xw_len P q)) (hd : decode cc pc = .ok (.iastore, 1)) (kk : xf_V X np L st (xf_A σ q i.toNatClampNeg x, τ)) : xf_V X pc L (.int x :: .int i :: .ref (xw_a P q) :: st) (σ, τ) := by
  rcases xw_XI_or hq with rfl | rfl | rfl | rfl | rfl | rfl | rfl | rfl | rfl | rfl
  · exact xf_iast hX np hp 5 0 rfl rfl hin hd (σ' := (xf_A σ 5 i.toNatClampNeg x, τ)) rfl kk
  · exact xf_iast hX np hp 6 0 rfl rfl hin hd (σ' := (xf_A σ 6 i.toNatClampNeg x, τ)) rfl kk
  · exact xf_iast hX np hp 7 0 rfl rfl hin hd (σ' := (xf_A σ 7 i.toNatClampNeg x, τ)) rfl kk
  · exact xf_iast hX np hp 8 0 rfl rfl hin hd (σ' := (xf_A σ 8 i.toNatClampNeg x, τ)) rfl kk
  · exact xf_iast hX np hp 9 0 rfl rfl hin hd (σ' := (xf_A σ 9 i.toNatClampNeg x, τ)) rfl kk
  · exact xf_iast hX np hp 12 0 rfl rfl hin hd (σ' := (xf_A σ 12 i.toNatClampNeg x, τ)) rfl kk
  · exact xf_iast hX np hp 14 0 rfl rfl hin hd (σ' := (xf_A σ 14 i.toNatClampNeg x, τ)) rfl kk
  · exact xf_iast hX np hp 15 0 rfl rfl hin hd (σ' := (xf_A σ 15 i.toNatClampNeg x, τ)) rfl kk
  · exact xf_iast hX np hp 16 0 rfl rfl hin hd (σ' := (xf_A σ 16 i.toNatClampNeg x, τ)) rfl kk
  · exact xf_iast hX np hp 17 0 rfl rfl hin hd (σ' := (xf_A σ 17 i.toNatClampNeg x, τ)) rfl kk
def xw_XZ : Nat → Bool
  | 10 => true
  | 11 => true
  | _ => false
theorem xw_XZ_or {q : Nat} (hq : xw_XZ q = true) : q = 10 ∨ q = 11 := by
  unfold xw_XZ at hq
  split at hq <;> first | omega | (cases hq; done)
theorem xaX_baload (hX : xf_ok X l own cc nL fr lo (xw_W P) D (xw_ty P)) (np : Nat) (hp : pc + 1 = np) {q : Nat} (hq : xw_XZ q = true) {i : Int32} (hin : vp_in i (xw_len P q)) (hd : decode cc pc = .ok (.baload, 1)) (kk : xf_V X np L (.int (σ.2 q i.toNatClampNeg) :: st) (σ, τ)) : xf_V X pc L (.int i :: .ref (xw_a P q) :: st) (σ, τ) := by
  rcases xw_XZ_or hq with rfl | rfl
  · exact xf_zald hX np hp 10 1 rfl rfl hin hd kk
  · exact xf_zald hX np hp 11 1 rfl rfl hin hd kk
theorem xaX_bastore (hX : xf_ok X l own cc nL fr lo (xw_W P) D (xw_ty P)) (np : Nat) (hp : pc + 1 = np) {q : Nat} (hq : xw_XZ q = true) {i x : Int32} (hin : vp_in i (xw_len P q)) (hz : vp_nar .boolean x = x) (hd : decode cc pc = .ok (.bastore, 1)) (kk : xf_V X np L st (xf_A σ q i.toNatClampNeg x, τ)) : xf_V X pc L (.int x :: .int i :: .ref (xw_a P q) :: st) (σ, τ) := by
  rcases xw_XZ_or hq with rfl | rfl
  · exact xf_zast hX np hp 10 1 rfl rfl hin hz hd (σ' := (xf_A σ 10 i.toNatClampNeg x, τ)) rfl kk
  · exact xf_zast hX np hp 11 1 rfl rfl hin hz hd (σ' := (xf_A σ 11 i.toNatClampNeg x, τ)) rfl kk
theorem xaX_alen (hX : xf_ok X l own cc nL fr lo (xw_W P) D (xw_ty P)) (np : Nat) (hp : pc + 1 = np) {q : Nat} (hq : xw_XI q = true) (hd : decode cc pc = .ok (.arraylength, 1)) (kk : xf_V X np L (.int (nI (xw_len P q)) :: st) (σ, τ)) : xf_V X pc L (.ref (xw_a P q) :: st) (σ, τ) := by
  rcases xw_XI_or hq with rfl | rfl | rfl | rfl | rfl | rfl | rfl | rfl | rfl | rfl
  · exact xf_alen hX np hp 5 0 rfl rfl rfl hd kk
  · exact xf_alen hX np hp 6 0 rfl rfl rfl hd kk
  · exact xf_alen hX np hp 7 0 rfl rfl rfl hd kk
  · exact xf_alen hX np hp 8 0 rfl rfl rfl hd kk
  · exact xf_alen hX np hp 9 0 rfl rfl rfl hd kk
  · exact xf_alen hX np hp 12 0 rfl rfl rfl hd kk
  · exact xf_alen hX np hp 14 0 rfl rfl rfl hd kk
  · exact xf_alen hX np hp 15 0 rfl rfl rfl hd kk
  · exact xf_alen hX np hp 16 0 rfl rfl rfl hd kk
  · exact xf_alen hX np hp 17 0 rfl rfl rfl hd kk
def xw_MI : Nat → Bool
  | 1 => true
  | 3 => true
  | 4 => true
  | 5 => true
  | 6 => true
  | 8 => true
  | 9 => true
  | 10 => true
  | 11 => true
  | 12 => true
  | 13 => true
  | 14 => true
  | 15 => true
  | 16 => true
  | 17 => true
  | _ => false
theorem xw_MI_or {q : Nat} (hq : xw_MI q = true) : q = 1 ∨ q = 3 ∨ q = 4 ∨ q = 5 ∨ q = 6 ∨ q = 8 ∨ q = 9 ∨ q = 10 ∨ q = 11 ∨ q = 12 ∨ q = 13 ∨ q = 14 ∨ q = 15 ∨ q = 16 ∨ q = 17 := by
  unfold xw_MI at hq
  split at hq <;> first | omega | (cases hq; done)
theorem xaM_iaload (hX : xf_ok X l own cc nL fr lo (xw_W P) D (xw_ty P)) (np : Nat) (hp : pc + 1 = np) {q : Nat} (hq : xw_MI q = true) {i : Int32} (hin : vp_in i (xw_len P (q + 100))) (hd : decode cc pc = .ok (.iaload, 1)) (kk : xf_V X np L (.int (τ.2 q i.toNatClampNeg) :: st) (σ, τ)) : xf_V X pc L (.int i :: .ref (xw_a P (q + 100)) :: st) (σ, τ) := by
  rcases xw_MI_or hq with rfl | rfl | rfl | rfl | rfl | rfl | rfl | rfl | rfl | rfl | rfl | rfl | rfl | rfl | rfl
  · exact xf_iald hX np hp 22 0 rfl rfl hin hd kk
  · exact xf_iald hX np hp 24 0 rfl rfl hin hd kk
  · exact xf_iald hX np hp 25 0 rfl rfl hin hd kk
  · exact xf_iald hX np hp 26 0 rfl rfl hin hd kk
  · exact xf_iald hX np hp 27 0 rfl rfl hin hd kk
  · exact xf_iald hX np hp 29 0 rfl rfl hin hd kk
  · exact xf_iald hX np hp 30 0 rfl rfl hin hd kk
  · exact xf_iald hX np hp 31 0 rfl rfl hin hd kk
  · exact xf_iald hX np hp 32 0 rfl rfl hin hd kk
  · exact xf_iald hX np hp 33 0 rfl rfl hin hd kk
  · exact xf_iald hX np hp 34 0 rfl rfl hin hd kk
  · exact xf_iald hX np hp 35 0 rfl rfl hin hd kk
  · exact xf_iald hX np hp 36 0 rfl rfl hin hd kk
  · exact xf_iald hX np hp 37 0 rfl rfl hin hd kk
  · exact xf_iald hX np hp 38 0 rfl rfl hin hd kk
theorem xaM_iastore (hX : xf_ok X l own cc nL fr lo (xw_W P) D (xw_ty P)) (np : Nat) (hp : pc + 1 = np) {q : Nat} (hq : xw_MI q = true) {i x : Int32} (hin : vp_in i (xw_len P (q + 100))) (hd : decode cc pc = .ok (.iastore, 1)) (kk : xf_V X np L st (σ, xf_A τ q i.toNatClampNeg x)) : xf_V X pc L (.int x :: .int i :: .ref (xw_a P (q + 100)) :: st) (σ, τ) := by
  rcases xw_MI_or hq with rfl | rfl | rfl | rfl | rfl | rfl | rfl | rfl | rfl | rfl | rfl | rfl | rfl | rfl | rfl
  · exact xf_iast hX np hp 22 0 rfl rfl hin hd (σ' := (σ, xf_A τ 1 i.toNatClampNeg x)) rfl kk
  · exact xf_iast hX np hp 24 0 rfl rfl hin hd (σ' := (σ, xf_A τ 3 i.toNatClampNeg x)) rfl kk
  · exact xf_iast hX np hp 25 0 rfl rfl hin hd (σ' := (σ, xf_A τ 4 i.toNatClampNeg x)) rfl kk
  · exact xf_iast hX np hp 26 0 rfl rfl hin hd (σ' := (σ, xf_A τ 5 i.toNatClampNeg x)) rfl kk
  · exact xf_iast hX np hp 27 0 rfl rfl hin hd (σ' := (σ, xf_A τ 6 i.toNatClampNeg x)) rfl kk
  · exact xf_iast hX np hp 29 0 rfl rfl hin hd (σ' := (σ, xf_A τ 8 i.toNatClampNeg x)) rfl kk
  · exact xf_iast hX np hp 30 0 rfl rfl hin hd (σ' := (σ, xf_A τ 9 i.toNatClampNeg x)) rfl kk
  · exact xf_iast hX np hp 31 0 rfl rfl hin hd (σ' := (σ, xf_A τ 10 i.toNatClampNeg x)) rfl kk
  · exact xf_iast hX np hp 32 0 rfl rfl hin hd (σ' := (σ, xf_A τ 11 i.toNatClampNeg x)) rfl kk
  · exact xf_iast hX np hp 33 0 rfl rfl hin hd (σ' := (σ, xf_A τ 12 i.toNatClampNeg x)) rfl kk
  · exact xf_iast hX np hp 34 0 rfl rfl hin hd (σ' := (σ, xf_A τ 13 i.toNatClampNeg x)) rfl kk
  · exact xf_iast hX np hp 35 0 rfl rfl hin hd (σ' := (σ, xf_A τ 14 i.toNatClampNeg x)) rfl kk
  · exact xf_iast hX np hp 36 0 rfl rfl hin hd (σ' := (σ, xf_A τ 15 i.toNatClampNeg x)) rfl kk
  · exact xf_iast hX np hp 37 0 rfl rfl hin hd (σ' := (σ, xf_A τ 16 i.toNatClampNeg x)) rfl kk
  · exact xf_iast hX np hp 38 0 rfl rfl hin hd (σ' := (σ, xf_A τ 17 i.toNatClampNeg x)) rfl kk
def xw_MZ : Nat → Bool
  | 2 => true
  | 7 => true
  | _ => false
theorem xw_MZ_or {q : Nat} (hq : xw_MZ q = true) : q = 2 ∨ q = 7 := by
  unfold xw_MZ at hq
  split at hq <;> first | omega | (cases hq; done)
theorem xaM_baload (hX : xf_ok X l own cc nL fr lo (xw_W P) D (xw_ty P)) (np : Nat) (hp : pc + 1 = np) {q : Nat} (hq : xw_MZ q = true) {i : Int32} (hin : vp_in i (xw_len P (q + 100))) (hd : decode cc pc = .ok (.baload, 1)) (kk : xf_V X np L (.int (τ.2 q i.toNatClampNeg) :: st) (σ, τ)) : xf_V X pc L (.int i :: .ref (xw_a P (q + 100)) :: st) (σ, τ) := by
  rcases xw_MZ_or hq with rfl | rfl
  · exact xf_zald hX np hp 23 1 rfl rfl hin hd kk
  · exact xf_zald hX np hp 28 1 rfl rfl hin hd kk
theorem xaM_bastore (hX : xf_ok X l own cc nL fr lo (xw_W P) D (xw_ty P)) (np : Nat) (hp : pc + 1 = np) {q : Nat} (hq : xw_MZ q = true) {i x : Int32} (hin : vp_in i (xw_len P (q + 100))) (hz : vp_nar .boolean x = x) (hd : decode cc pc = .ok (.bastore, 1)) (kk : xf_V X np L st (σ, xf_A τ q i.toNatClampNeg x)) : xf_V X pc L (.int x :: .int i :: .ref (xw_a P (q + 100)) :: st) (σ, τ) := by
  rcases xw_MZ_or hq with rfl | rfl
  · exact xf_zast hX np hp 23 1 rfl rfl hin hz hd (σ' := (σ, xf_A τ 2 i.toNatClampNeg x)) rfl kk
  · exact xf_zast hX np hp 28 1 rfl rfl hin hz hd (σ' := (σ, xf_A τ 7 i.toNatClampNeg x)) rfl kk
theorem xaM_alen (hX : xf_ok X l own cc nL fr lo (xw_W P) D (xw_ty P)) (np : Nat) (hp : pc + 1 = np) {q : Nat} (hq : xw_MI q = true) (hd : decode cc pc = .ok (.arraylength, 1)) (kk : xf_V X np L (.int (nI (xw_len P (q + 100))) :: st) (σ, τ)) : xf_V X pc L (.ref (xw_a P (q + 100)) :: st) (σ, τ) := by
  rcases xw_MI_or hq with rfl | rfl | rfl | rfl | rfl | rfl | rfl | rfl | rfl | rfl | rfl | rfl | rfl | rfl | rfl
  · exact xf_alen hX np hp 22 0 rfl rfl rfl hd kk
  · exact xf_alen hX np hp 24 0 rfl rfl rfl hd kk
  · exact xf_alen hX np hp 25 0 rfl rfl rfl hd kk
  · exact xf_alen hX np hp 26 0 rfl rfl rfl hd kk
  · exact xf_alen hX np hp 27 0 rfl rfl rfl hd kk
  · exact xf_alen hX np hp 29 0 rfl rfl rfl hd kk
  · exact xf_alen hX np hp 30 0 rfl rfl rfl hd kk
  · exact xf_alen hX np hp 31 0 rfl rfl rfl hd kk
  · exact xf_alen hX np hp 32 0 rfl rfl rfl hd kk
  · exact xf_alen hX np hp 33 0 rfl rfl rfl hd kk
  · exact xf_alen hX np hp 34 0 rfl rfl rfl hd kk
  · exact xf_alen hX np hp 35 0 rfl rfl rfl hd kk
  · exact xf_alen hX np hp 36 0 rfl rfl rfl hd kk
  · exact xf_alen hX np hp 37 0 rfl rfl rfl hd kk
  · exact xf_alen hX np hp 38 0 rfl rfl rfl hd kk
theorem xaX_aaload (hX : xf_ok X l own cc nL fr lo (xw_W P) D (xw_ty P)) (np : Nat) (hp : pc + 1 = np) (h4 : (4 : Nat) = 4) {i : Int32} (hin : vp_in i 3) (hd : decode cc pc = .ok (.aaload, 1)) (kk : xf_V X np L (.ref (xw_a P (18 + i.toNatClampNeg)) :: st) (σ, τ)) : xf_V X pc L (.int i :: .ref (xw_a P 4) :: st) (σ, τ) := xf_aald hX np hp 4 2 rfl rfl hin hd rfl kk
end XWF
end
section
theorem xnd_SC_init_0 : decode xnc_SC_init 0 = .ok (.aload_n 0, 1) := by decide +kernel
theorem xnd_SC_init_1 : decode xnc_SC_init 1 = .ok (.invokespecial 1, 3) := by decide +kernel
theorem xnd_SC_init_4 : decode xnc_SC_init 4 = .ok (.aload_n 0, 1) := by decide +kernel
theorem xnd_SC_init_5 : decode xnc_SC_init 5 = .ok (.new 7, 3) := by decide +kernel
theorem xnd_SC_init_8 : decode xnc_SC_init 8 = .ok (.dup, 1) := by decide +kernel
theorem xnd_SC_init_9 : decode xnc_SC_init 9 = .ok (.invokespecial 9, 3) := by decide +kernel
theorem xnd_SC_init_12 : decode xnc_SC_init 12 = .ok (.putfield 10, 3) := by decide +kernel
theorem xnd_SC_init_15 : decode xnc_SC_init 15 = .ok (.aload_n 0, 1) := by decide +kernel
theorem xnd_SC_init_16 : decode xnc_SC_init 16 = .ok (.new 16, 3) := by decide +kernel
theorem xnd_SC_init_19 : decode xnc_SC_init 19 = .ok (.dup, 1) := by decide +kernel
theorem xnd_SC_init_20 : decode xnc_SC_init 20 = .ok (.iload_n 1, 1) := by decide +kernel
theorem xnd_SC_init_21 : decode xnc_SC_init 21 = .ok (.iconst 1, 1) := by decide +kernel
theorem xnd_SC_init_22 : decode xnc_SC_init 22 = .ok (.bipush 32, 2) := by decide +kernel
theorem xnd_SC_init_24 : decode xnc_SC_init 24 = .ok (.invokestatic 18, 3) := by decide +kernel
theorem xnd_SC_init_27 : decode xnc_SC_init 27 = .ok (.ifCond .eq 7, 3) := by decide +kernel
theorem xnd_SC_init_30 : decode xnc_SC_init 30 = .ok (.iload_n 1, 1) := by decide +kernel
theorem xnd_SC_init_31 : decode xnc_SC_init 31 = .ok (.goto 5, 3) := by decide +kernel
theorem xnd_SC_init_34 : decode xnc_SC_init 34 = .ok (.bipush 12, 2) := by decide +kernel
theorem xnd_SC_init_36 : decode xnc_SC_init 36 = .ok (.iload_n 2, 1) := by decide +kernel
theorem xnd_SC_init_37 : decode xnc_SC_init 37 = .ok (.iconst 1, 1) := by decide +kernel
theorem xnd_SC_init_38 : decode xnc_SC_init 38 = .ok (.iconst 4, 1) := by decide +kernel
theorem xnd_SC_init_39 : decode xnc_SC_init 39 = .ok (.invokestatic 18, 3) := by decide +kernel
theorem xnd_SC_init_42 : decode xnc_SC_init 42 = .ok (.ifCond .eq 7, 3) := by decide +kernel
theorem xnd_SC_init_45 : decode xnc_SC_init 45 = .ok (.iload_n 2, 1) := by decide +kernel
theorem xnd_SC_init_46 : decode xnc_SC_init 46 = .ok (.goto 4, 3) := by decide +kernel
theorem xnd_SC_init_49 : decode xnc_SC_init 49 = .ok (.iconst 2, 1) := by decide +kernel
theorem xnd_SC_init_50 : decode xnc_SC_init 50 = .ok (.aload_n 0, 1) := by decide +kernel
theorem xnd_SC_init_51 : decode xnc_SC_init 51 = .ok (.getfield 10, 3) := by decide +kernel
theorem xnd_SC_init_54 : decode xnc_SC_init 54 = .ok (.invokespecial 22, 3) := by decide +kernel
theorem xnd_SC_init_57 : decode xnc_SC_init 57 = .ok (.putfield 25, 3) := by decide +kernel
theorem xnd_SC_init_60 : decode xnc_SC_init 60 = .ok (.aload_n 0, 1) := by decide +kernel
theorem xnd_SC_init_61 : decode xnc_SC_init 61 = .ok (.new 29, 3) := by decide +kernel
theorem xnd_SC_init_64 : decode xnc_SC_init 64 = .ok (.dup, 1) := by decide +kernel
theorem xnd_SC_init_65 : decode xnc_SC_init 65 = .ok (.aload_n 0, 1) := by decide +kernel
theorem xnd_SC_init_66 : decode xnc_SC_init 66 = .ok (.getfield 25, 3) := by decide +kernel
theorem xnd_SC_init_69 : decode xnc_SC_init 69 = .ok (.aload_n 0, 1) := by decide +kernel
theorem xnd_SC_init_70 : decode xnc_SC_init 70 = .ok (.getfield 10, 3) := by decide +kernel
theorem xnd_SC_init_73 : decode xnc_SC_init 73 = .ok (.invokespecial 31, 3) := by decide +kernel
theorem xnd_SC_init_76 : decode xnc_SC_init 76 = .ok (.putfield 34, 3) := by decide +kernel
theorem xnd_SC_init_79 : decode xnc_SC_init 79 = .ok (.aload_n 0, 1) := by decide +kernel
theorem xnd_SC_init_80 : decode xnc_SC_init 80 = .ok (.iconst 3, 1) := by decide +kernel
theorem xnd_SC_init_81 : decode xnc_SC_init 81 = .ok (.anewarray 38, 3) := by decide +kernel
theorem xnd_SC_init_84 : decode xnc_SC_init 84 = .ok (.putfield 40, 3) := by decide +kernel
theorem xnd_SC_init_87 : decode xnc_SC_init 87 = .ok (.iconst 0, 1) := by decide +kernel
theorem xnd_SC_init_88 : decode xnc_SC_init 88 = .ok (.istore_n 3, 1) := by decide +kernel
theorem xnd_SC_init_89 : decode xnc_SC_init 89 = .ok (.iload_n 3, 1) := by decide +kernel
theorem xnd_SC_init_90 : decode xnc_SC_init 90 = .ok (.iconst 3, 1) := by decide +kernel
theorem xnd_SC_init_91 : decode xnc_SC_init 91 = .ok (.if_icmp .ge 34, 3) := by decide +kernel
theorem xnd_SC_init_94 : decode xnc_SC_init 94 = .ok (.aload_n 0, 1) := by decide +kernel
theorem xnd_SC_init_95 : decode xnc_SC_init 95 = .ok (.getfield 40, 3) := by decide +kernel
theorem xnd_SC_init_98 : decode xnc_SC_init 98 = .ok (.iload_n 3, 1) := by decide +kernel
theorem xnd_SC_init_99 : decode xnc_SC_init 99 = .ok (.new 38, 3) := by decide +kernel
theorem xnd_SC_init_102 : decode xnc_SC_init 102 = .ok (.dup, 1) := by decide +kernel
theorem xnd_SC_init_103 : decode xnc_SC_init 103 = .ok (.aload_n 0, 1) := by decide +kernel
theorem xnd_SC_init_104 : decode xnc_SC_init 104 = .ok (.getfield 25, 3) := by decide +kernel
theorem xnd_SC_init_107 : decode xnc_SC_init 107 = .ok (.aload_n 0, 1) := by decide +kernel
theorem xnd_SC_init_108 : decode xnc_SC_init 108 = .ok (.getfield 34, 3) := by decide +kernel
theorem xnd_SC_init_111 : decode xnc_SC_init 111 = .ok (.aload_n 0, 1) := by decide +kernel
theorem xnd_SC_init_112 : decode xnc_SC_init 112 = .ok (.getfield 10, 3) := by decide +kernel
theorem xnd_SC_init_115 : decode xnc_SC_init 115 = .ok (.invokespecial 44, 3) := by decide +kernel
theorem xnd_SC_init_118 : decode xnc_SC_init 118 = .ok (.aastore, 1) := by decide +kernel
theorem xnd_SC_init_119 : decode xnc_SC_init 119 = .ok (.iinc 3 1, 3) := by decide +kernel
theorem xnd_SC_init_122 : decode xnc_SC_init 122 = .ok (.goto (-33), 3) := by decide +kernel
theorem xnd_SC_init_125 : decode xnc_SC_init 125 = .ok (.return_, 1) := by decide +kernel
theorem xnd_TA_init_0 : decode xnc_TA_init 0 = .ok (.aload_n 0, 1) := by decide +kernel
theorem xnd_TA_init_1 : decode xnc_TA_init 1 = .ok (.invokespecial 1, 3) := by decide +kernel
theorem xnd_TA_init_4 : decode xnc_TA_init 4 = .ok (.return_, 1) := by decide +kernel
theorem xnd_SC_isWithin_0 : decode xnc_SC_isWithin 0 = .ok (.iload_n 0, 1) := by decide +kernel
theorem xnd_SC_isWithin_1 : decode xnc_SC_isWithin 1 = .ok (.iload_n 1, 1) := by decide +kernel
theorem xnd_SC_isWithin_2 : decode xnc_SC_isWithin 2 = .ok (.if_icmp .lt 12, 3) := by decide +kernel
theorem xnd_SC_isWithin_5 : decode xnc_SC_isWithin 5 = .ok (.iload_n 0, 1) := by decide +kernel
theorem xnd_SC_isWithin_6 : decode xnc_SC_isWithin 6 = .ok (.iload_n 2, 1) := by decide +kernel
theorem xnd_SC_isWithin_7 : decode xnc_SC_isWithin 7 = .ok (.if_icmp .gt 7, 3) := by decide +kernel
theorem xnd_SC_isWithin_10 : decode xnc_SC_isWithin 10 = .ok (.iconst 1, 1) := by decide +kernel
theorem xnd_SC_isWithin_11 : decode xnc_SC_isWithin 11 = .ok (.goto 4, 3) := by decide +kernel
theorem xnd_SC_isWithin_14 : decode xnc_SC_isWithin 14 = .ok (.iconst 0, 1) := by decide +kernel
theorem xnd_SC_isWithin_15 : decode xnc_SC_isWithin 15 = .ok (.ireturn, 1) := by decide +kernel
theorem xnd_ST_init_0 : decode xnc_ST_init 0 = .ok (.aload_n 0, 1) := by decide +kernel
theorem xnd_ST_init_1 : decode xnc_ST_init 1 = .ok (.invokespecial 3, 3) := by decide +kernel
theorem xnd_ST_init_4 : decode xnc_ST_init 4 = .ok (.aload_n 0, 1) := by decide +kernel
theorem xnd_ST_init_5 : decode xnc_ST_init 5 = .ok (.aload_n 3, 1) := by decide +kernel
theorem xnd_ST_init_6 : decode xnc_ST_init 6 = .ok (.putfield 9, 3) := by decide +kernel
theorem xnd_ST_init_9 : decode xnc_ST_init 9 = .ok (.aload_n 0, 1) := by decide +kernel
theorem xnd_ST_init_10 : decode xnc_ST_init 10 = .ok (.iload_n 1, 1) := by decide +kernel
theorem xnd_ST_init_11 : decode xnc_ST_init 11 = .ok (.putfield 15, 3) := by decide +kernel
theorem xnd_ST_init_14 : decode xnc_ST_init 14 = .ok (.aload_n 0, 1) := by decide +kernel
theorem xnd_ST_init_15 : decode xnc_ST_init 15 = .ok (.iload_n 2, 1) := by decide +kernel
theorem xnd_ST_init_16 : decode xnc_ST_init 16 = .ok (.putfield 19, 3) := by decide +kernel
theorem xnd_ST_init_19 : decode xnc_ST_init 19 = .ok (.aload_n 0, 1) := by decide +kernel
theorem xnd_ST_init_20 : decode xnc_ST_init 20 = .ok (.bipush 8, 2) := by decide +kernel
theorem xnd_ST_init_22 : decode xnc_ST_init 22 = .ok (.iload_n 2, 1) := by decide +kernel
theorem xnd_ST_init_23 : decode xnc_ST_init 23 = .ok (.imul, 1) := by decide +kernel
theorem xnd_ST_init_24 : decode xnc_ST_init 24 = .ok (.newarray .int, 2) := by decide +kernel
theorem xnd_ST_init_26 : decode xnc_ST_init 26 = .ok (.putfield 22, 3) := by decide +kernel
theorem xnd_ST_init_29 : decode xnc_ST_init 29 = .ok (.aload_n 0, 1) := by decide +kernel
theorem xnd_ST_init_30 : decode xnc_ST_init 30 = .ok (.getfield 22, 3) := by decide +kernel
theorem xnd_ST_init_33 : decode xnc_ST_init 33 = .ok (.iconst (-1), 1) := by decide +kernel
theorem xnd_ST_init_34 : decode xnc_ST_init 34 = .ok (.invokestatic 26, 3) := by decide +kernel
theorem xnd_ST_init_37 : decode xnc_ST_init 37 = .ok (.aload_n 0, 1) := by decide +kernel
theorem xnd_ST_init_38 : decode xnc_ST_init 38 = .ok (.iload_n 1, 1) := by decide +kernel
theorem xnd_ST_init_39 : decode xnc_ST_init 39 = .ok (.newarray .int, 2) := by decide +kernel
theorem xnd_ST_init_41 : decode xnc_ST_init 41 = .ok (.putfield 32, 3) := by decide +kernel
theorem xnd_ST_init_44 : decode xnc_ST_init 44 = .ok (.aload_n 0, 1) := by decide +kernel
theorem xnd_ST_init_45 : decode xnc_ST_init 45 = .ok (.iload_n 1, 1) := by decide +kernel
theorem xnd_ST_init_46 : decode xnc_ST_init 46 = .ok (.newarray .int, 2) := by decide +kernel
theorem xnd_ST_init_48 : decode xnc_ST_init 48 = .ok (.putfield 35, 3) := by decide +kernel
theorem xnd_ST_init_51 : decode xnc_ST_init 51 = .ok (.aload_n 0, 1) := by decide +kernel
theorem xnd_ST_init_52 : decode xnc_ST_init 52 = .ok (.iload_n 1, 1) := by decide +kernel
theorem xnd_ST_init_53 : decode xnc_ST_init 53 = .ok (.newarray .int, 2) := by decide +kernel
theorem xnd_ST_init_55 : decode xnc_ST_init 55 = .ok (.putfield 38, 3) := by decide +kernel
theorem xnd_ST_init_58 : decode xnc_ST_init 58 = .ok (.aload_n 0, 1) := by decide +kernel
theorem xnd_ST_init_59 : decode xnc_ST_init 59 = .ok (.iload_n 1, 1) := by decide +kernel
theorem xnd_ST_init_60 : decode xnc_ST_init 60 = .ok (.newarray .int, 2) := by decide +kernel
theorem xnd_ST_init_62 : decode xnc_ST_init 62 = .ok (.putfield 41, 3) := by decide +kernel
theorem xnd_ST_init_65 : decode xnc_ST_init 65 = .ok (.aload_n 0, 1) := by decide +kernel
theorem xnd_ST_init_66 : decode xnc_ST_init 66 = .ok (.iload_n 1, 1) := by decide +kernel
theorem xnd_ST_init_67 : decode xnc_ST_init 67 = .ok (.newarray .boolean, 2) := by decide +kernel
theorem xnd_ST_init_69 : decode xnc_ST_init 69 = .ok (.putfield 44, 3) := by decide +kernel
theorem xnd_ST_init_72 : decode xnc_ST_init 72 = .ok (.aload_n 0, 1) := by decide +kernel
theorem xnd_ST_init_73 : decode xnc_ST_init 73 = .ok (.iload_n 1, 1) := by decide +kernel
theorem xnd_ST_init_74 : decode xnc_ST_init 74 = .ok (.newarray .boolean, 2) := by decide +kernel
theorem xnd_ST_init_76 : decode xnc_ST_init 76 = .ok (.putfield 48, 3) := by decide +kernel
theorem xnd_ST_init_79 : decode xnc_ST_init 79 = .ok (.aload_n 0, 1) := by decide +kernel
theorem xnd_ST_init_80 : decode xnc_ST_init 80 = .ok (.iconst 4, 1) := by decide +kernel
theorem xnd_ST_init_81 : decode xnc_ST_init 81 = .ok (.newarray .int, 2) := by decide +kernel
theorem xnd_ST_init_83 : decode xnc_ST_init 83 = .ok (.putfield 51, 3) := by decide +kernel
theorem xnd_ST_init_86 : decode xnc_ST_init 86 = .ok (.return_, 1) := by decide +kernel
theorem xnd_AR_fill_0 : decode xnc_AR_fill 0 = .ok (.iconst 0, 1) := by decide +kernel
theorem xnd_AR_fill_1 : decode xnc_AR_fill 1 = .ok (.istore_n 2, 1) := by decide +kernel
theorem xnd_AR_fill_2 : decode xnc_AR_fill 2 = .ok (.aload_n 0, 1) := by decide +kernel
theorem xnd_AR_fill_3 : decode xnc_AR_fill 3 = .ok (.arraylength, 1) := by decide +kernel
theorem xnd_AR_fill_4 : decode xnc_AR_fill 4 = .ok (.istore_n 3, 1) := by decide +kernel
theorem xnd_AR_fill_5 : decode xnc_AR_fill 5 = .ok (.iload_n 2, 1) := by decide +kernel
theorem xnd_AR_fill_6 : decode xnc_AR_fill 6 = .ok (.iload_n 3, 1) := by decide +kernel
theorem xnd_AR_fill_7 : decode xnc_AR_fill 7 = .ok (.if_icmp .ge 13, 3) := by decide +kernel
theorem xnd_AR_fill_10 : decode xnc_AR_fill 10 = .ok (.aload_n 0, 1) := by decide +kernel
theorem xnd_AR_fill_11 : decode xnc_AR_fill 11 = .ok (.iload_n 2, 1) := by decide +kernel
theorem xnd_AR_fill_12 : decode xnc_AR_fill 12 = .ok (.iload_n 1, 1) := by decide +kernel
theorem xnd_AR_fill_13 : decode xnc_AR_fill 13 = .ok (.iastore, 1) := by decide +kernel
theorem xnd_AR_fill_14 : decode xnc_AR_fill 14 = .ok (.iinc 2 1, 3) := by decide +kernel
theorem xnd_AR_fill_17 : decode xnc_AR_fill 17 = .ok (.goto (-12), 3) := by decide +kernel
theorem xnd_AR_fill_20 : decode xnc_AR_fill 20 = .ok (.return_, 1) := by decide +kernel
theorem xnd_WR_init_0 : decode xnc_WR_init 0 = .ok (.aload_n 0, 1) := by decide +kernel
theorem xnd_WR_init_1 : decode xnc_WR_init 1 = .ok (.invokespecial 3, 3) := by decide +kernel
theorem xnd_WR_init_4 : decode xnc_WR_init 4 = .ok (.aload_n 0, 1) := by decide +kernel
theorem xnd_WR_init_5 : decode xnc_WR_init 5 = .ok (.aload_n 1, 1) := by decide +kernel
theorem xnd_WR_init_6 : decode xnc_WR_init 6 = .ok (.putfield 9, 3) := by decide +kernel
theorem xnd_WR_init_9 : decode xnc_WR_init 9 = .ok (.aload_n 0, 1) := by decide +kernel
theorem xnd_WR_init_10 : decode xnc_WR_init 10 = .ok (.aload_n 2, 1) := by decide +kernel
theorem xnd_WR_init_11 : decode xnc_WR_init 11 = .ok (.putfield 15, 3) := by decide +kernel
theorem xnd_WR_init_14 : decode xnc_WR_init 14 = .ok (.aload_n 0, 1) := by decide +kernel
theorem xnd_WR_init_15 : decode xnc_WR_init 15 = .ok (.new 19, 3) := by decide +kernel
theorem xnd_WR_init_18 : decode xnc_WR_init 18 = .ok (.dup, 1) := by decide +kernel
theorem xnd_WR_init_19 : decode xnc_WR_init 19 = .ok (.aload_n 1, 1) := by decide +kernel
theorem xnd_WR_init_20 : decode xnc_WR_init 20 = .ok (.invokespecial 21, 3) := by decide +kernel
theorem xnd_WR_init_23 : decode xnc_WR_init 23 = .ok (.putfield 24, 3) := by decide +kernel
theorem xnd_WR_init_26 : decode xnc_WR_init 26 = .ok (.aload_n 0, 1) := by decide +kernel
theorem xnd_WR_init_27 : decode xnc_WR_init 27 = .ok (.iconst (-1), 1) := by decide +kernel
theorem xnd_WR_init_28 : decode xnc_WR_init 28 = .ok (.putfield 28, 3) := by decide +kernel
theorem xnd_WR_init_31 : decode xnc_WR_init 31 = .ok (.return_, 1) := by decide +kernel
theorem xnd_PA_init_0 : decode xnc_PA_init 0 = .ok (.aload_n 0, 1) := by decide +kernel
theorem xnd_PA_init_1 : decode xnc_PA_init 1 = .ok (.invokespecial 3, 3) := by decide +kernel
theorem xnd_PA_init_4 : decode xnc_PA_init 4 = .ok (.aload_n 0, 1) := by decide +kernel
theorem xnd_PA_init_5 : decode xnc_PA_init 5 = .ok (.aload_n 1, 1) := by decide +kernel
theorem xnd_PA_init_6 : decode xnc_PA_init 6 = .ok (.putfield 9, 3) := by decide +kernel
theorem xnd_PA_init_9 : decode xnc_PA_init 9 = .ok (.aload_n 0, 1) := by decide +kernel
theorem xnd_PA_init_10 : decode xnc_PA_init 10 = .ok (.iconst 5, 1) := by decide +kernel
theorem xnd_PA_init_11 : decode xnc_PA_init 11 = .ok (.newarray .int, 2) := by decide +kernel
theorem xnd_PA_init_13 : decode xnc_PA_init 13 = .ok (.putfield 15, 3) := by decide +kernel
theorem xnd_PA_init_16 : decode xnc_PA_init 16 = .ok (.aload_n 0, 1) := by decide +kernel
theorem xnd_PA_init_17 : decode xnc_PA_init 17 = .ok (.aload_n 1, 1) := by decide +kernel
theorem xnd_PA_init_18 : decode xnc_PA_init 18 = .ok (.getfield 19, 3) := by decide +kernel
theorem xnd_PA_init_21 : decode xnc_PA_init 21 = .ok (.arraylength, 1) := by decide +kernel
theorem xnd_PA_init_22 : decode xnc_PA_init 22 = .ok (.newarray .int, 2) := by decide +kernel
theorem xnd_PA_init_24 : decode xnc_PA_init 24 = .ok (.putfield 24, 3) := by decide +kernel
theorem xnd_PA_init_27 : decode xnc_PA_init 27 = .ok (.aload_n 0, 1) := by decide +kernel
theorem xnd_PA_init_28 : decode xnc_PA_init 28 = .ok (.aload_n 1, 1) := by decide +kernel
theorem xnd_PA_init_29 : decode xnc_PA_init 29 = .ok (.getfield 19, 3) := by decide +kernel
theorem xnd_PA_init_32 : decode xnc_PA_init 32 = .ok (.arraylength, 1) := by decide +kernel
theorem xnd_PA_init_33 : decode xnc_PA_init 33 = .ok (.newarray .int, 2) := by decide +kernel
theorem xnd_PA_init_35 : decode xnc_PA_init 35 = .ok (.putfield 27, 3) := by decide +kernel
theorem xnd_PA_init_38 : decode xnc_PA_init 38 = .ok (.aload_n 0, 1) := by decide +kernel
theorem xnd_PA_init_39 : decode xnc_PA_init 39 = .ok (.aload_n 1, 1) := by decide +kernel
theorem xnd_PA_init_40 : decode xnc_PA_init 40 = .ok (.getfield 19, 3) := by decide +kernel
theorem xnd_PA_init_43 : decode xnc_PA_init 43 = .ok (.arraylength, 1) := by decide +kernel
theorem xnd_PA_init_44 : decode xnc_PA_init 44 = .ok (.newarray .int, 2) := by decide +kernel
theorem xnd_PA_init_46 : decode xnc_PA_init 46 = .ok (.putfield 30, 3) := by decide +kernel
theorem xnd_PA_init_49 : decode xnc_PA_init 49 = .ok (.return_, 1) := by decide +kernel
theorem xnd_RD_init_0 : decode xnc_RD_init 0 = .ok (.aload_n 0, 1) := by decide +kernel
theorem xnd_RD_init_1 : decode xnc_RD_init 1 = .ok (.invokespecial 3, 3) := by decide +kernel
theorem xnd_RD_init_4 : decode xnc_RD_init 4 = .ok (.aload_n 0, 1) := by decide +kernel
theorem xnd_RD_init_5 : decode xnc_RD_init 5 = .ok (.aload_n 1, 1) := by decide +kernel
theorem xnd_RD_init_6 : decode xnc_RD_init 6 = .ok (.putfield 9, 3) := by decide +kernel
theorem xnd_RD_init_9 : decode xnc_RD_init 9 = .ok (.aload_n 0, 1) := by decide +kernel
theorem xnd_RD_init_10 : decode xnc_RD_init 10 = .ok (.aload_n 2, 1) := by decide +kernel
theorem xnd_RD_init_11 : decode xnc_RD_init 11 = .ok (.putfield 15, 3) := by decide +kernel
theorem xnd_RD_init_14 : decode xnc_RD_init 14 = .ok (.aload_n 0, 1) := by decide +kernel
theorem xnd_RD_init_15 : decode xnc_RD_init 15 = .ok (.aload_n 3, 1) := by decide +kernel
theorem xnd_RD_init_16 : decode xnc_RD_init 16 = .ok (.putfield 19, 3) := by decide +kernel
theorem xnd_RD_init_19 : decode xnc_RD_init 19 = .ok (.return_, 1) := by decide +kernel
theorem xnd_SC_write_0 : decode xnc_SC_write 0 = .ok (.aload_n 0, 1) := by decide +kernel
theorem xnd_SC_write_1 : decode xnc_SC_write 1 = .ok (.getfield 34, 3) := by decide +kernel
theorem xnd_SC_write_4 : decode xnc_SC_write 4 = .ok (.invokevirtual 47, 3) := by decide +kernel
theorem xnd_SC_write_7 : decode xnc_SC_write 7 = .ok (.ifCond .ne 24, 3) := by decide +kernel
theorem xnd_SC_write_10 : decode xnc_SC_write 10 = .ok (.iload_n 1, 1) := by decide +kernel
theorem xnd_SC_write_11 : decode xnc_SC_write 11 = .ok (.iconst 0, 1) := by decide +kernel
theorem xnd_SC_write_12 : decode xnc_SC_write 12 = .ok (.iconst 4, 1) := by decide +kernel
theorem xnd_SC_write_13 : decode xnc_SC_write 13 = .ok (.invokestatic 18, 3) := by decide +kernel
theorem xnd_SC_write_16 : decode xnc_SC_write 16 = .ok (.ifCond .eq 15, 3) := by decide +kernel
theorem xnd_SC_write_19 : decode xnc_SC_write 19 = .ok (.iload 4, 2) := by decide +kernel
theorem xnd_SC_write_21 : decode xnc_SC_write 21 = .ok (.iconst 0, 1) := by decide +kernel
theorem xnd_SC_write_22 : decode xnc_SC_write 22 = .ok (.sipush 1000, 3) := by decide +kernel
theorem xnd_SC_write_25 : decode xnc_SC_write 25 = .ok (.invokestatic 18, 3) := by decide +kernel
theorem xnd_SC_write_28 : decode xnc_SC_write 28 = .ok (.ifCond .ne 5, 3) := by decide +kernel
theorem xnd_SC_write_31 : decode xnc_SC_write 31 = .ok (.iconst 0, 1) := by decide +kernel
theorem xnd_SC_write_32 : decode xnc_SC_write 32 = .ok (.ireturn, 1) := by decide +kernel
theorem xnd_SC_write_33 : decode xnc_SC_write 33 = .ok (.aload_n 0, 1) := by decide +kernel
theorem xnd_SC_write_34 : decode xnc_SC_write 34 = .ok (.getfield 34, 3) := by decide +kernel
theorem xnd_SC_write_37 : decode xnc_SC_write 37 = .ok (.iload_n 1, 1) := by decide +kernel
theorem xnd_SC_write_38 : decode xnc_SC_write 38 = .ok (.iload_n 2, 1) := by decide +kernel
theorem xnd_SC_write_39 : decode xnc_SC_write 39 = .ok (.iload_n 3, 1) := by decide +kernel
theorem xnd_SC_write_40 : decode xnc_SC_write 40 = .ok (.iload 4, 2) := by decide +kernel
theorem xnd_SC_write_42 : decode xnc_SC_write 42 = .ok (.iload 5, 2) := by decide +kernel
theorem xnd_SC_write_44 : decode xnc_SC_write 44 = .ok (.invokevirtual 51, 3) := by decide +kernel
theorem xnd_SC_write_47 : decode xnc_SC_write 47 = .ok (.iconst 1, 1) := by decide +kernel
theorem xnd_SC_write_48 : decode xnc_SC_write 48 = .ok (.ireturn, 1) := by decide +kernel
theorem xnd_WR_isUnderWay_0 : decode xnc_WR_isUnderWay 0 = .ok (.aload_n 0, 1) := by decide +kernel
theorem xnd_WR_isUnderWay_1 : decode xnc_WR_isUnderWay 1 = .ok (.getfield 28, 3) := by decide +kernel
theorem xnd_WR_isUnderWay_4 : decode xnc_WR_isUnderWay 4 = .ok (.ifCond .ne 7, 3) := by decide +kernel
theorem xnd_WR_isUnderWay_7 : decode xnc_WR_isUnderWay 7 = .ok (.iconst 1, 1) := by decide +kernel
theorem xnd_WR_isUnderWay_8 : decode xnc_WR_isUnderWay 8 = .ok (.goto 4, 3) := by decide +kernel
theorem xnd_WR_isUnderWay_11 : decode xnc_WR_isUnderWay 11 = .ok (.iconst 0, 1) := by decide +kernel
theorem xnd_WR_isUnderWay_12 : decode xnc_WR_isUnderWay 12 = .ok (.ireturn, 1) := by decide +kernel
theorem xnd_WR_begin_0 : decode xnc_WR_begin 0 = .ok (.aload_n 0, 1) := by decide +kernel
theorem xnd_WR_begin_1 : decode xnc_WR_begin 1 = .ok (.iload_n 1, 1) := by decide +kernel
theorem xnd_WR_begin_2 : decode xnc_WR_begin 2 = .ok (.putfield 32, 3) := by decide +kernel
theorem xnd_WR_begin_5 : decode xnc_WR_begin 5 = .ok (.aload_n 0, 1) := by decide +kernel
theorem xnd_WR_begin_6 : decode xnc_WR_begin 6 = .ok (.iload_n 2, 1) := by decide +kernel
theorem xnd_WR_begin_7 : decode xnc_WR_begin 7 = .ok (.putfield 35, 3) := by decide +kernel
theorem xnd_WR_begin_10 : decode xnc_WR_begin 10 = .ok (.aload_n 0, 1) := by decide +kernel
theorem xnd_WR_begin_11 : decode xnc_WR_begin 11 = .ok (.iload_n 3, 1) := by decide +kernel
theorem xnd_WR_begin_12 : decode xnc_WR_begin 12 = .ok (.putfield 38, 3) := by decide +kernel
theorem xnd_WR_begin_15 : decode xnc_WR_begin 15 = .ok (.aload_n 0, 1) := by decide +kernel
theorem xnd_WR_begin_16 : decode xnc_WR_begin 16 = .ok (.iload 4, 2) := by decide +kernel
theorem xnd_WR_begin_18 : decode xnc_WR_begin 18 = .ok (.putfield 41, 3) := by decide +kernel
theorem xnd_WR_begin_21 : decode xnc_WR_begin 21 = .ok (.aload_n 0, 1) := by decide +kernel
theorem xnd_WR_begin_22 : decode xnc_WR_begin 22 = .ok (.iload 5, 2) := by decide +kernel
theorem xnd_WR_begin_24 : decode xnc_WR_begin 24 = .ok (.putfield 44, 3) := by decide +kernel
theorem xnd_WR_begin_27 : decode xnc_WR_begin 27 = .ok (.aload_n 0, 1) := by decide +kernel
theorem xnd_WR_begin_28 : decode xnc_WR_begin 28 = .ok (.iconst 0, 1) := by decide +kernel
theorem xnd_WR_begin_29 : decode xnc_WR_begin 29 = .ok (.putfield 28, 3) := by decide +kernel
theorem xnd_WR_begin_32 : decode xnc_WR_begin 32 = .ok (.aload_n 0, 1) := by decide +kernel
theorem xnd_WR_begin_33 : decode xnc_WR_begin 33 = .ok (.iconst 0, 1) := by decide +kernel
theorem xnd_WR_begin_34 : decode xnc_WR_begin 34 = .ok (.putfield 47, 3) := by decide +kernel
theorem xnd_WR_begin_37 : decode xnc_WR_begin 37 = .ok (.return_, 1) := by decide +kernel
theorem xnd_SC_work_0 : decode xnc_SC_work 0 = .ok (.iconst 0, 1) := by decide +kernel
theorem xnd_SC_work_1 : decode xnc_SC_work 1 = .ok (.istore_n 2, 1) := by decide +kernel
theorem xnd_SC_work_2 : decode xnc_SC_work 2 = .ok (.iload_n 1, 1) := by decide +kernel
theorem xnd_SC_work_3 : decode xnc_SC_work 3 = .ok (.iconst 1, 1) := by decide +kernel
theorem xnd_SC_work_4 : decode xnc_SC_work 4 = .ok (.bipush 50, 2) := by decide +kernel
theorem xnd_SC_work_6 : decode xnc_SC_work 6 = .ok (.invokestatic 18, 3) := by decide +kernel
theorem xnd_SC_work_9 : decode xnc_SC_work 9 = .ok (.ifCond .eq 31, 3) := by decide +kernel
theorem xnd_SC_work_12 : decode xnc_SC_work 12 = .ok (.iload_n 2, 1) := by decide +kernel
theorem xnd_SC_work_13 : decode xnc_SC_work 13 = .ok (.iload_n 1, 1) := by decide +kernel
theorem xnd_SC_work_14 : decode xnc_SC_work 14 = .ok (.if_icmp .ge 26, 3) := by decide +kernel
theorem xnd_SC_work_17 : decode xnc_SC_work 17 = .ok (.aload_n 0, 1) := by decide +kernel
theorem xnd_SC_work_18 : decode xnc_SC_work 18 = .ok (.getfield 34, 3) := by decide +kernel
theorem xnd_SC_work_21 : decode xnc_SC_work 21 = .ok (.invokevirtual 47, 3) := by decide +kernel
theorem xnd_SC_work_24 : decode xnc_SC_work 24 = .ok (.ifCond .eq 16, 3) := by decide +kernel
theorem xnd_SC_work_27 : decode xnc_SC_work 27 = .ok (.aload_n 0, 1) := by decide +kernel
theorem xnd_SC_work_28 : decode xnc_SC_work 28 = .ok (.getfield 34, 3) := by decide +kernel
theorem xnd_SC_work_31 : decode xnc_SC_work 31 = .ok (.invokevirtual 55, 3) := by decide +kernel
theorem xnd_SC_work_34 : decode xnc_SC_work 34 = .ok (.iinc 2 1, 3) := by decide +kernel
theorem xnd_SC_work_37 : decode xnc_SC_work 37 = .ok (.goto (-25), 3) := by decide +kernel
theorem xnd_SC_work_40 : decode xnc_SC_work 40 = .ok (.iload_n 2, 1) := by decide +kernel
theorem xnd_SC_work_41 : decode xnc_SC_work 41 = .ok (.ireturn, 1) := by decide +kernel
theorem xnd_WR_goOn_0 : decode xnc_WR_goOn 0 = .ok (.aload_n 0, 1) := by decide +kernel
theorem xnd_WR_goOn_1 : decode xnc_WR_goOn 1 = .ok (.getfield 47, 3) := by decide +kernel
theorem xnd_WR_goOn_4 : decode xnc_WR_goOn 4 = .ok (.tableswitch 93 0 6 #[44, 51, 58, 65, 72, 79, 86], 44) := by decide +kernel
theorem xnd_WR_goOn_48 : decode xnc_WR_goOn 48 = .ok (.aload_n 0, 1) := by decide +kernel
theorem xnd_WR_goOn_49 : decode xnc_WR_goOn 49 = .ok (.invokevirtual 50, 3) := by decide +kernel
theorem xnd_WR_goOn_52 : decode xnc_WR_goOn 52 = .ok (.goto 49, 3) := by decide +kernel
theorem xnd_WR_goOn_55 : decode xnc_WR_goOn 55 = .ok (.aload_n 0, 1) := by decide +kernel
theorem xnd_WR_goOn_56 : decode xnc_WR_goOn 56 = .ok (.invokevirtual 53, 3) := by decide +kernel
theorem xnd_WR_goOn_59 : decode xnc_WR_goOn 59 = .ok (.goto 42, 3) := by decide +kernel
theorem xnd_WR_goOn_62 : decode xnc_WR_goOn 62 = .ok (.aload_n 0, 1) := by decide +kernel
theorem xnd_WR_goOn_63 : decode xnc_WR_goOn 63 = .ok (.invokevirtual 56, 3) := by decide +kernel
theorem xnd_WR_goOn_66 : decode xnc_WR_goOn 66 = .ok (.goto 35, 3) := by decide +kernel
theorem xnd_WR_goOn_69 : decode xnc_WR_goOn 69 = .ok (.aload_n 0, 1) := by decide +kernel
theorem xnd_WR_goOn_70 : decode xnc_WR_goOn 70 = .ok (.invokevirtual 59, 3) := by decide +kernel
theorem xnd_WR_goOn_73 : decode xnc_WR_goOn 73 = .ok (.goto 28, 3) := by decide +kernel
theorem xnd_WR_goOn_76 : decode xnc_WR_goOn 76 = .ok (.aload_n 0, 1) := by decide +kernel
theorem xnd_WR_goOn_77 : decode xnc_WR_goOn 77 = .ok (.invokevirtual 62, 3) := by decide +kernel
theorem xnd_WR_goOn_80 : decode xnc_WR_goOn 80 = .ok (.goto 21, 3) := by decide +kernel
theorem xnd_WR_goOn_83 : decode xnc_WR_goOn 83 = .ok (.aload_n 0, 1) := by decide +kernel
theorem xnd_WR_goOn_84 : decode xnc_WR_goOn 84 = .ok (.invokevirtual 65, 3) := by decide +kernel
theorem xnd_WR_goOn_87 : decode xnc_WR_goOn 87 = .ok (.goto 14, 3) := by decide +kernel
theorem xnd_WR_goOn_90 : decode xnc_WR_goOn 90 = .ok (.aload_n 0, 1) := by decide +kernel
theorem xnd_WR_goOn_91 : decode xnc_WR_goOn 91 = .ok (.invokevirtual 68, 3) := by decide +kernel
theorem xnd_WR_goOn_94 : decode xnc_WR_goOn 94 = .ok (.goto 7, 3) := by decide +kernel
theorem xnd_WR_goOn_97 : decode xnc_WR_goOn 97 = .ok (.aload_n 0, 1) := by decide +kernel
theorem xnd_WR_goOn_98 : decode xnc_WR_goOn 98 = .ok (.invokevirtual 71, 3) := by decide +kernel
theorem xnd_WR_goOn_101 : decode xnc_WR_goOn 101 = .ok (.return_, 1) := by decide +kernel
theorem xnd_WR_lookUpKey_0 : decode xnc_WR_lookUpKey 0 = .ok (.aload_n 0, 1) := by decide +kernel
theorem xnd_WR_lookUpKey_1 : decode xnc_WR_lookUpKey 1 = .ok (.getfield 9, 3) := by decide +kernel
theorem xnd_WR_lookUpKey_4 : decode xnc_WR_lookUpKey 4 = .ok (.aload_n 0, 1) := by decide +kernel
theorem xnd_WR_lookUpKey_5 : decode xnc_WR_lookUpKey 5 = .ok (.getfield 35, 3) := by decide +kernel
theorem xnd_WR_lookUpKey_8 : decode xnc_WR_lookUpKey 8 = .ok (.invokevirtual 74, 3) := by decide +kernel
theorem xnd_WR_lookUpKey_11 : decode xnc_WR_lookUpKey 11 = .ok (.istore_n 1, 1) := by decide +kernel
theorem xnd_WR_lookUpKey_12 : decode xnc_WR_lookUpKey 12 = .ok (.iload_n 1, 1) := by decide +kernel
theorem xnd_WR_lookUpKey_13 : decode xnc_WR_lookUpKey 13 = .ok (.iconst (-1), 1) := by decide +kernel
theorem xnd_WR_lookUpKey_14 : decode xnc_WR_lookUpKey 14 = .ok (.if_icmp .eq 15, 3) := by decide +kernel
theorem xnd_WR_lookUpKey_17 : decode xnc_WR_lookUpKey 17 = .ok (.aload_n 0, 1) := by decide +kernel
theorem xnd_WR_lookUpKey_18 : decode xnc_WR_lookUpKey 18 = .ok (.getfield 9, 3) := by decide +kernel
theorem xnd_WR_lookUpKey_21 : decode xnc_WR_lookUpKey 21 = .ok (.getfield 80, 3) := by decide +kernel
theorem xnd_WR_lookUpKey_24 : decode xnc_WR_lookUpKey 24 = .ok (.iload_n 1, 1) := by decide +kernel
theorem xnd_WR_lookUpKey_25 : decode xnc_WR_lookUpKey 25 = .ok (.iaload, 1) := by decide +kernel
theorem xnd_WR_lookUpKey_26 : decode xnc_WR_lookUpKey 26 = .ok (.goto 4, 3) := by decide +kernel
theorem xnd_WR_lookUpKey_29 : decode xnc_WR_lookUpKey 29 = .ok (.iconst (-1), 1) := by decide +kernel
theorem xnd_WR_lookUpKey_30 : decode xnc_WR_lookUpKey 30 = .ok (.istore_n 2, 1) := by decide +kernel
theorem xnd_WR_lookUpKey_31 : decode xnc_WR_lookUpKey 31 = .ok (.iload_n 2, 1) := by decide +kernel
theorem xnd_WR_lookUpKey_32 : decode xnc_WR_lookUpKey 32 = .ok (.iconst (-1), 1) := by decide +kernel
theorem xnd_WR_lookUpKey_33 : decode xnc_WR_lookUpKey 33 = .ok (.if_icmp .eq 45, 3) := by decide +kernel
theorem xnd_WR_lookUpKey_36 : decode xnc_WR_lookUpKey 36 = .ok (.aload_n 0, 1) := by decide +kernel
theorem xnd_WR_lookUpKey_37 : decode xnc_WR_lookUpKey 37 = .ok (.getfield 9, 3) := by decide +kernel
theorem xnd_WR_lookUpKey_40 : decode xnc_WR_lookUpKey 40 = .ok (.aload_n 0, 1) := by decide +kernel
theorem xnd_WR_lookUpKey_41 : decode xnc_WR_lookUpKey 41 = .ok (.getfield 9, 3) := by decide +kernel
theorem xnd_WR_lookUpKey_44 : decode xnc_WR_lookUpKey 44 = .ok (.getfield 84, 3) := by decide +kernel
theorem xnd_WR_lookUpKey_47 : decode xnc_WR_lookUpKey 47 = .ok (.iload_n 2, 1) := by decide +kernel
theorem xnd_WR_lookUpKey_48 : decode xnc_WR_lookUpKey 48 = .ok (.iaload, 1) := by decide +kernel
theorem xnd_WR_lookUpKey_49 : decode xnc_WR_lookUpKey 49 = .ok (.invokevirtual 87, 3) := by decide +kernel
theorem xnd_WR_lookUpKey_52 : decode xnc_WR_lookUpKey 52 = .ok (.ifCond .eq 26, 3) := by decide +kernel
theorem xnd_WR_lookUpKey_55 : decode xnc_WR_lookUpKey 55 = .ok (.aload_n 0, 1) := by decide +kernel
theorem xnd_WR_lookUpKey_56 : decode xnc_WR_lookUpKey 56 = .ok (.getfield 9, 3) := by decide +kernel
theorem xnd_WR_lookUpKey_59 : decode xnc_WR_lookUpKey 59 = .ok (.iload_n 2, 1) := by decide +kernel
theorem xnd_WR_lookUpKey_60 : decode xnc_WR_lookUpKey 60 = .ok (.invokevirtual 91, 3) := by decide +kernel
theorem xnd_WR_lookUpKey_63 : decode xnc_WR_lookUpKey 63 = .ok (.aload_n 0, 1) := by decide +kernel
theorem xnd_WR_lookUpKey_64 : decode xnc_WR_lookUpKey 64 = .ok (.getfield 15, 3) := by decide +kernel
theorem xnd_WR_lookUpKey_67 : decode xnc_WR_lookUpKey 67 = .ok (.dup, 1) := by decide +kernel
theorem xnd_WR_lookUpKey_68 : decode xnc_WR_lookUpKey 68 = .ok (.getfield 95, 3) := by decide +kernel
theorem xnd_WR_lookUpKey_71 : decode xnc_WR_lookUpKey 71 = .ok (.iconst 1, 1) := by decide +kernel
theorem xnd_WR_lookUpKey_72 : decode xnc_WR_lookUpKey 72 = .ok (.iadd, 1) := by decide +kernel
theorem xnd_WR_lookUpKey_73 : decode xnc_WR_lookUpKey 73 = .ok (.putfield 95, 3) := by decide +kernel
theorem xnd_WR_lookUpKey_76 : decode xnc_WR_lookUpKey 76 = .ok (.iconst (-1), 1) := by decide +kernel
theorem xnd_WR_lookUpKey_77 : decode xnc_WR_lookUpKey 77 = .ok (.istore_n 2, 1) := by decide +kernel
theorem xnd_WR_lookUpKey_78 : decode xnc_WR_lookUpKey 78 = .ok (.iload_n 2, 1) := by decide +kernel
theorem xnd_WR_lookUpKey_79 : decode xnc_WR_lookUpKey 79 = .ok (.iconst (-1), 1) := by decide +kernel
theorem xnd_WR_lookUpKey_80 : decode xnc_WR_lookUpKey 80 = .ok (.if_icmp .eq 11, 3) := by decide +kernel
theorem xnd_WR_lookUpKey_83 : decode xnc_WR_lookUpKey 83 = .ok (.aload_n 0, 1) := by decide +kernel
theorem xnd_WR_lookUpKey_84 : decode xnc_WR_lookUpKey 84 = .ok (.iload_n 2, 1) := by decide +kernel
theorem xnd_WR_lookUpKey_85 : decode xnc_WR_lookUpKey 85 = .ok (.invokevirtual 100, 3) := by decide +kernel
theorem xnd_WR_lookUpKey_88 : decode xnc_WR_lookUpKey 88 = .ok (.goto 7, 3) := by decide +kernel
theorem xnd_WR_lookUpKey_91 : decode xnc_WR_lookUpKey 91 = .ok (.aload_n 0, 1) := by decide +kernel
theorem xnd_WR_lookUpKey_92 : decode xnc_WR_lookUpKey 92 = .ok (.invokevirtual 103, 3) := by decide +kernel
theorem xnd_WR_lookUpKey_95 : decode xnc_WR_lookUpKey 95 = .ok (.return_, 1) := by decide +kernel
theorem xnd_ST_lookUp_0 : decode xnc_ST_lookUp 0 = .ok (.aload_n 0, 1) := by decide +kernel
theorem xnd_ST_lookUp_1 : decode xnc_ST_lookUp 1 = .ok (.iload_n 1, 1) := by decide +kernel
theorem xnd_ST_lookUp_2 : decode xnc_ST_lookUp 2 = .ok (.invokestatic 60, 3) := by decide +kernel
theorem xnd_ST_lookUp_5 : decode xnc_ST_lookUp 5 = .ok (.iload_n 1, 1) := by decide +kernel
theorem xnd_ST_lookUp_6 : decode xnc_ST_lookUp 6 = .ok (.invokevirtual 71, 3) := by decide +kernel
theorem xnd_ST_lookUp_9 : decode xnc_ST_lookUp 9 = .ok (.istore_n 2, 1) := by decide +kernel
theorem xnd_ST_lookUp_10 : decode xnc_ST_lookUp 10 = .ok (.iload_n 2, 1) := by decide +kernel
theorem xnd_ST_lookUp_11 : decode xnc_ST_lookUp 11 = .ok (.iconst (-1), 1) := by decide +kernel
theorem xnd_ST_lookUp_12 : decode xnc_ST_lookUp 12 = .ok (.if_icmp .eq 7, 3) := by decide +kernel
theorem xnd_ST_lookUp_15 : decode xnc_ST_lookUp 15 = .ok (.iload_n 2, 1) := by decide +kernel
theorem xnd_ST_lookUp_16 : decode xnc_ST_lookUp 16 = .ok (.goto 12, 3) := by decide +kernel
theorem xnd_ST_lookUp_19 : decode xnc_ST_lookUp 19 = .ok (.aload_n 0, 1) := by decide +kernel
theorem xnd_ST_lookUp_20 : decode xnc_ST_lookUp 20 = .ok (.iload_n 1, 1) := by decide +kernel
theorem xnd_ST_lookUp_21 : decode xnc_ST_lookUp 21 = .ok (.invokestatic 68, 3) := by decide +kernel
theorem xnd_ST_lookUp_24 : decode xnc_ST_lookUp 24 = .ok (.iload_n 1, 1) := by decide +kernel
theorem xnd_ST_lookUp_25 : decode xnc_ST_lookUp 25 = .ok (.invokevirtual 71, 3) := by decide +kernel
theorem xnd_ST_lookUp_28 : decode xnc_ST_lookUp 28 = .ok (.ireturn, 1) := by decide +kernel
theorem xnd_SC_firstBucket_0 : decode xnc_SC_firstBucket 0 = .ok (.iload_n 0, 1) := by decide +kernel
theorem xnd_SC_firstBucket_1 : decode xnc_SC_firstBucket 1 = .ok (.invokestatic 162, 3) := by decide +kernel
theorem xnd_SC_firstBucket_4 : decode xnc_SC_firstBucket 4 = .ok (.bipush 25, 2) := by decide +kernel
theorem xnd_SC_firstBucket_6 : decode xnc_SC_firstBucket 6 = .ok (.iushr, 1) := by decide +kernel
theorem xnd_SC_firstBucket_7 : decode xnc_SC_firstBucket 7 = .ok (.bipush 7, 2) := by decide +kernel
theorem xnd_SC_firstBucket_9 : decode xnc_SC_firstBucket 9 = .ok (.iand, 1) := by decide +kernel
theorem xnd_SC_firstBucket_10 : decode xnc_SC_firstBucket 10 = .ok (.ireturn, 1) := by decide +kernel
theorem xnd_SC_mix_0 : decode xnc_SC_mix 0 = .ok (.iload_n 0, 1) := by decide +kernel
theorem xnd_SC_mix_1 : decode xnc_SC_mix 1 = .ok (.iload_n 0, 1) := by decide +kernel
theorem xnd_SC_mix_2 : decode xnc_SC_mix 2 = .ok (.bipush 15, 2) := by decide +kernel
theorem xnd_SC_mix_4 : decode xnc_SC_mix 4 = .ok (.iushr, 1) := by decide +kernel
theorem xnd_SC_mix_5 : decode xnc_SC_mix 5 = .ok (.ixor, 1) := by decide +kernel
theorem xnd_SC_mix_6 : decode xnc_SC_mix 6 = .ok (.ldc 161, 2) := by decide +kernel
theorem xnd_SC_mix_8 : decode xnc_SC_mix 8 = .ok (.imul, 1) := by decide +kernel
theorem xnd_SC_mix_9 : decode xnc_SC_mix 9 = .ok (.ireturn, 1) := by decide +kernel
theorem xnd_ST_lookUpIn_0 : decode xnc_ST_lookUpIn 0 = .ok (.aload_n 0, 1) := by decide +kernel
theorem xnd_ST_lookUpIn_1 : decode xnc_ST_lookUpIn 1 = .ok (.iload_n 1, 1) := by decide +kernel
theorem xnd_ST_lookUpIn_2 : decode xnc_ST_lookUpIn 2 = .ok (.iload_n 2, 1) := by decide +kernel
theorem xnd_ST_lookUpIn_3 : decode xnc_ST_lookUpIn 3 = .ok (.invokevirtual 64, 3) := by decide +kernel
theorem xnd_ST_lookUpIn_6 : decode xnc_ST_lookUpIn 6 = .ok (.istore_n 3, 1) := by decide +kernel
theorem xnd_ST_lookUpIn_7 : decode xnc_ST_lookUpIn 7 = .ok (.iload_n 3, 1) := by decide +kernel
theorem xnd_ST_lookUpIn_8 : decode xnc_ST_lookUpIn 8 = .ok (.iconst (-1), 1) := by decide +kernel
theorem xnd_ST_lookUpIn_9 : decode xnc_ST_lookUpIn 9 = .ok (.if_icmp .eq 7, 3) := by decide +kernel
theorem xnd_ST_lookUpIn_12 : decode xnc_ST_lookUpIn 12 = .ok (.iload_n 3, 1) := by decide +kernel
theorem xnd_ST_lookUpIn_13 : decode xnc_ST_lookUpIn 13 = .ok (.goto 11, 3) := by decide +kernel
theorem xnd_ST_lookUpIn_16 : decode xnc_ST_lookUpIn 16 = .ok (.aload_n 0, 1) := by decide +kernel
theorem xnd_ST_lookUpIn_17 : decode xnc_ST_lookUpIn 17 = .ok (.getfield 19, 3) := by decide +kernel
theorem xnd_ST_lookUpIn_20 : decode xnc_ST_lookUpIn 20 = .ok (.iload_n 1, 1) := by decide +kernel
theorem xnd_ST_lookUpIn_21 : decode xnc_ST_lookUpIn 21 = .ok (.iconst 1, 1) := by decide +kernel
theorem xnd_ST_lookUpIn_22 : decode xnc_ST_lookUpIn 22 = .ok (.iadd, 1) := by decide +kernel
theorem xnd_ST_lookUpIn_23 : decode xnc_ST_lookUpIn 23 = .ok (.imul, 1) := by decide +kernel
theorem xnd_ST_lookUpIn_24 : decode xnc_ST_lookUpIn 24 = .ok (.istore 4, 2) := by decide +kernel
theorem xnd_ST_lookUpIn_26 : decode xnc_ST_lookUpIn 26 = .ok (.aload_n 0, 1) := by decide +kernel
theorem xnd_ST_lookUpIn_27 : decode xnc_ST_lookUpIn 27 = .ok (.getfield 19, 3) := by decide +kernel
theorem xnd_ST_lookUpIn_30 : decode xnc_ST_lookUpIn 30 = .ok (.iload_n 1, 1) := by decide +kernel
theorem xnd_ST_lookUpIn_31 : decode xnc_ST_lookUpIn 31 = .ok (.imul, 1) := by decide +kernel
theorem xnd_ST_lookUpIn_32 : decode xnc_ST_lookUpIn 32 = .ok (.istore 5, 2) := by decide +kernel
theorem xnd_ST_lookUpIn_34 : decode xnc_ST_lookUpIn 34 = .ok (.iload 5, 2) := by decide +kernel
theorem xnd_ST_lookUpIn_36 : decode xnc_ST_lookUpIn 36 = .ok (.iload 4, 2) := by decide +kernel
theorem xnd_ST_lookUpIn_38 : decode xnc_ST_lookUpIn 38 = .ok (.if_icmp .ge 55, 3) := by decide +kernel
theorem xnd_ST_lookUpIn_41 : decode xnc_ST_lookUpIn 41 = .ok (.aload_n 0, 1) := by decide +kernel
theorem xnd_ST_lookUpIn_42 : decode xnc_ST_lookUpIn 42 = .ok (.getfield 22, 3) := by decide +kernel
theorem xnd_ST_lookUpIn_45 : decode xnc_ST_lookUpIn 45 = .ok (.iload 5, 2) := by decide +kernel
theorem xnd_ST_lookUpIn_47 : decode xnc_ST_lookUpIn 47 = .ok (.iaload, 1) := by decide +kernel
theorem xnd_ST_lookUpIn_48 : decode xnc_ST_lookUpIn 48 = .ok (.iconst (-1), 1) := by decide +kernel
theorem xnd_ST_lookUpIn_49 : decode xnc_ST_lookUpIn 49 = .ok (.if_icmp .eq 38, 3) := by decide +kernel
theorem xnd_ST_lookUpIn_52 : decode xnc_ST_lookUpIn 52 = .ok (.aload_n 0, 1) := by decide +kernel
theorem xnd_ST_lookUpIn_53 : decode xnc_ST_lookUpIn 53 = .ok (.getfield 32, 3) := by decide +kernel
theorem xnd_ST_lookUpIn_56 : decode xnc_ST_lookUpIn 56 = .ok (.aload_n 0, 1) := by decide +kernel
theorem xnd_ST_lookUpIn_57 : decode xnc_ST_lookUpIn 57 = .ok (.getfield 22, 3) := by decide +kernel
theorem xnd_ST_lookUpIn_60 : decode xnc_ST_lookUpIn 60 = .ok (.iload 5, 2) := by decide +kernel
theorem xnd_ST_lookUpIn_62 : decode xnc_ST_lookUpIn 62 = .ok (.iaload, 1) := by decide +kernel
theorem xnd_ST_lookUpIn_63 : decode xnc_ST_lookUpIn 63 = .ok (.iaload, 1) := by decide +kernel
theorem xnd_ST_lookUpIn_64 : decode xnc_ST_lookUpIn 64 = .ok (.invokestatic 74, 3) := by decide +kernel
theorem xnd_ST_lookUpIn_67 : decode xnc_ST_lookUpIn 67 = .ok (.iload_n 2, 1) := by decide +kernel
theorem xnd_ST_lookUpIn_68 : decode xnc_ST_lookUpIn 68 = .ok (.invokestatic 74, 3) := by decide +kernel
theorem xnd_ST_lookUpIn_71 : decode xnc_ST_lookUpIn 71 = .ok (.if_icmp .ne 16, 3) := by decide +kernel
theorem xnd_ST_lookUpIn_74 : decode xnc_ST_lookUpIn 74 = .ok (.aload_n 0, 1) := by decide +kernel
theorem xnd_ST_lookUpIn_75 : decode xnc_ST_lookUpIn 75 = .ok (.getfield 9, 3) := by decide +kernel
theorem xnd_ST_lookUpIn_78 : decode xnc_ST_lookUpIn 78 = .ok (.dup, 1) := by decide +kernel
theorem xnd_ST_lookUpIn_79 : decode xnc_ST_lookUpIn 79 = .ok (.getfield 77, 3) := by decide +kernel
theorem xnd_ST_lookUpIn_82 : decode xnc_ST_lookUpIn 82 = .ok (.iconst 1, 1) := by decide +kernel
theorem xnd_ST_lookUpIn_83 : decode xnc_ST_lookUpIn 83 = .ok (.iadd, 1) := by decide +kernel
theorem xnd_ST_lookUpIn_84 : decode xnc_ST_lookUpIn 84 = .ok (.putfield 77, 3) := by decide +kernel
theorem xnd_ST_lookUpIn_87 : decode xnc_ST_lookUpIn 87 = .ok (.iinc 5 1, 3) := by decide +kernel
theorem xnd_ST_lookUpIn_90 : decode xnc_ST_lookUpIn 90 = .ok (.goto (-56), 3) := by decide +kernel
theorem xnd_ST_lookUpIn_93 : decode xnc_ST_lookUpIn 93 = .ok (.iload_n 3, 1) := by decide +kernel
theorem xnd_ST_lookUpIn_94 : decode xnc_ST_lookUpIn 94 = .ok (.ireturn, 1) := by decide +kernel
theorem xnd_ST_findIn_0 : decode xnc_ST_findIn 0 = .ok (.aload_n 0, 1) := by decide +kernel
theorem xnd_ST_findIn_1 : decode xnc_ST_findIn 1 = .ok (.getfield 19, 3) := by decide +kernel
theorem xnd_ST_findIn_4 : decode xnc_ST_findIn 4 = .ok (.iload_n 1, 1) := by decide +kernel
theorem xnd_ST_findIn_5 : decode xnc_ST_findIn 5 = .ok (.iconst 1, 1) := by decide +kernel
theorem xnd_ST_findIn_6 : decode xnc_ST_findIn 6 = .ok (.iadd, 1) := by decide +kernel
theorem xnd_ST_findIn_7 : decode xnc_ST_findIn 7 = .ok (.imul, 1) := by decide +kernel
theorem xnd_ST_findIn_8 : decode xnc_ST_findIn 8 = .ok (.istore_n 3, 1) := by decide +kernel
theorem xnd_ST_findIn_9 : decode xnc_ST_findIn 9 = .ok (.aload_n 0, 1) := by decide +kernel
theorem xnd_ST_findIn_10 : decode xnc_ST_findIn 10 = .ok (.getfield 19, 3) := by decide +kernel
theorem xnd_ST_findIn_13 : decode xnc_ST_findIn 13 = .ok (.iload_n 1, 1) := by decide +kernel
theorem xnd_ST_findIn_14 : decode xnc_ST_findIn 14 = .ok (.imul, 1) := by decide +kernel
theorem xnd_ST_findIn_15 : decode xnc_ST_findIn 15 = .ok (.istore 4, 2) := by decide +kernel
theorem xnd_ST_findIn_17 : decode xnc_ST_findIn 17 = .ok (.iload 4, 2) := by decide +kernel
theorem xnd_ST_findIn_19 : decode xnc_ST_findIn 19 = .ok (.iload_n 3, 1) := by decide +kernel
theorem xnd_ST_findIn_20 : decode xnc_ST_findIn 20 = .ok (.if_icmp .ge 39, 3) := by decide +kernel
theorem xnd_ST_findIn_23 : decode xnc_ST_findIn 23 = .ok (.aload_n 0, 1) := by decide +kernel
theorem xnd_ST_findIn_24 : decode xnc_ST_findIn 24 = .ok (.getfield 22, 3) := by decide +kernel
theorem xnd_ST_findIn_27 : decode xnc_ST_findIn 27 = .ok (.iload 4, 2) := by decide +kernel
theorem xnd_ST_findIn_29 : decode xnc_ST_findIn 29 = .ok (.iaload, 1) := by decide +kernel
theorem xnd_ST_findIn_30 : decode xnc_ST_findIn 30 = .ok (.iconst (-1), 1) := by decide +kernel
theorem xnd_ST_findIn_31 : decode xnc_ST_findIn 31 = .ok (.if_icmp .eq 22, 3) := by decide +kernel
theorem xnd_ST_findIn_34 : decode xnc_ST_findIn 34 = .ok (.aload_n 0, 1) := by decide +kernel
theorem xnd_ST_findIn_35 : decode xnc_ST_findIn 35 = .ok (.getfield 32, 3) := by decide +kernel
theorem xnd_ST_findIn_38 : decode xnc_ST_findIn 38 = .ok (.aload_n 0, 1) := by decide +kernel
theorem xnd_ST_findIn_39 : decode xnc_ST_findIn 39 = .ok (.getfield 22, 3) := by decide +kernel
theorem xnd_ST_findIn_42 : decode xnc_ST_findIn 42 = .ok (.iload 4, 2) := by decide +kernel
theorem xnd_ST_findIn_44 : decode xnc_ST_findIn 44 = .ok (.iaload, 1) := by decide +kernel
theorem xnd_ST_findIn_45 : decode xnc_ST_findIn 45 = .ok (.iaload, 1) := by decide +kernel
theorem xnd_ST_findIn_46 : decode xnc_ST_findIn 46 = .ok (.iload_n 2, 1) := by decide +kernel
theorem xnd_ST_findIn_47 : decode xnc_ST_findIn 47 = .ok (.if_icmp .ne 6, 3) := by decide +kernel
theorem xnd_ST_findIn_50 : decode xnc_ST_findIn 50 = .ok (.iload 4, 2) := by decide +kernel
theorem xnd_ST_findIn_52 : decode xnc_ST_findIn 52 = .ok (.ireturn, 1) := by decide +kernel
theorem xnd_ST_findIn_53 : decode xnc_ST_findIn 53 = .ok (.iinc 4 1, 3) := by decide +kernel
theorem xnd_ST_findIn_56 : decode xnc_ST_findIn 56 = .ok (.goto (-39), 3) := by decide +kernel
theorem xnd_ST_findIn_59 : decode xnc_ST_findIn 59 = .ok (.iconst (-1), 1) := by decide +kernel
theorem xnd_ST_findIn_60 : decode xnc_ST_findIn 60 = .ok (.ireturn, 1) := by decide +kernel
theorem xnd_SC_tagOf_0 : decode xnc_SC_tagOf 0 = .ok (.iload_n 0, 1) := by decide +kernel
theorem xnd_SC_tagOf_1 : decode xnc_SC_tagOf 1 = .ok (.invokestatic 162, 3) := by decide +kernel
theorem xnd_SC_tagOf_4 : decode xnc_SC_tagOf 4 = .ok (.bipush 28, 2) := by decide +kernel
theorem xnd_SC_tagOf_6 : decode xnc_SC_tagOf 6 = .ok (.iushr, 1) := by decide +kernel
theorem xnd_SC_tagOf_7 : decode xnc_SC_tagOf 7 = .ok (.ireturn, 1) := by decide +kernel
theorem xnd_SC_secondBucket_0 : decode xnc_SC_secondBucket 0 = .ok (.iload_n 0, 1) := by decide +kernel
theorem xnd_SC_secondBucket_1 : decode xnc_SC_secondBucket 1 = .ok (.invokestatic 116, 3) := by decide +kernel
theorem xnd_SC_secondBucket_4 : decode xnc_SC_secondBucket 4 = .ok (.iload_n 0, 1) := by decide +kernel
theorem xnd_SC_secondBucket_5 : decode xnc_SC_secondBucket 5 = .ok (.invokestatic 165, 3) := by decide +kernel
theorem xnd_SC_secondBucket_8 : decode xnc_SC_secondBucket 8 = .ok (.ireturn, 1) := by decide +kernel
theorem xnd_SC_otherBucket_0 : decode xnc_SC_otherBucket 0 = .ok (.iload_n 0, 1) := by decide +kernel
theorem xnd_SC_otherBucket_1 : decode xnc_SC_otherBucket 1 = .ok (.iconst 1, 1) := by decide +kernel
theorem xnd_SC_otherBucket_2 : decode xnc_SC_otherBucket 2 = .ok (.iload_n 1, 1) := by decide +kernel
theorem xnd_SC_otherBucket_3 : decode xnc_SC_otherBucket 3 = .ok (.invokestatic 122, 3) := by decide +kernel
theorem xnd_SC_otherBucket_6 : decode xnc_SC_otherBucket 6 = .ok (.bipush 7, 2) := by decide +kernel
theorem xnd_SC_otherBucket_8 : decode xnc_SC_otherBucket 8 = .ok (.irem, 1) := by decide +kernel
theorem xnd_SC_otherBucket_9 : decode xnc_SC_otherBucket 9 = .ok (.iadd, 1) := by decide +kernel
theorem xnd_SC_otherBucket_10 : decode xnc_SC_otherBucket 10 = .ok (.ixor, 1) := by decide +kernel
theorem xnd_SC_otherBucket_11 : decode xnc_SC_otherBucket 11 = .ok (.ireturn, 1) := by decide +kernel
theorem xnd_ST_isOver_0 : decode xnc_ST_isOver 0 = .ok (.iload_n 1, 1) := by decide +kernel
theorem xnd_ST_isOver_1 : decode xnc_ST_isOver 1 = .ok (.ifCond .eq 15, 3) := by decide +kernel
theorem xnd_ST_isOver_4 : decode xnc_ST_isOver 4 = .ok (.iload_n 1, 1) := by decide +kernel
theorem xnd_ST_isOver_5 : decode xnc_ST_isOver 5 = .ok (.aload_n 0, 1) := by decide +kernel
theorem xnd_ST_isOver_6 : decode xnc_ST_isOver 6 = .ok (.getfield 57, 3) := by decide +kernel
theorem xnd_ST_isOver_9 : decode xnc_ST_isOver 9 = .ok (.if_icmp .gt 7, 3) := by decide +kernel
theorem xnd_ST_isOver_12 : decode xnc_ST_isOver 12 = .ok (.iconst 1, 1) := by decide +kernel
theorem xnd_ST_isOver_13 : decode xnc_ST_isOver 13 = .ok (.goto 4, 3) := by decide +kernel
theorem xnd_ST_isOver_16 : decode xnc_ST_isOver 16 = .ok (.iconst 0, 1) := by decide +kernel
theorem xnd_ST_isOver_17 : decode xnc_ST_isOver 17 = .ok (.ireturn, 1) := by decide +kernel
theorem xnd_ST_remove_0 : decode xnc_ST_remove 0 = .ok (.iconst 0, 1) := by decide +kernel
theorem xnd_ST_remove_1 : decode xnc_ST_remove 1 = .ok (.istore_n 2, 1) := by decide +kernel
theorem xnd_ST_remove_2 : decode xnc_ST_remove 2 = .ok (.iload_n 2, 1) := by decide +kernel
theorem xnd_ST_remove_3 : decode xnc_ST_remove 3 = .ok (.aload_n 0, 1) := by decide +kernel
theorem xnd_ST_remove_4 : decode xnc_ST_remove 4 = .ok (.getfield 22, 3) := by decide +kernel
theorem xnd_ST_remove_7 : decode xnc_ST_remove 7 = .ok (.arraylength, 1) := by decide +kernel
theorem xnd_ST_remove_8 : decode xnc_ST_remove 8 = .ok (.if_icmp .ge 26, 3) := by decide +kernel
theorem xnd_ST_remove_11 : decode xnc_ST_remove 11 = .ok (.aload_n 0, 1) := by decide +kernel
theorem xnd_ST_remove_12 : decode xnc_ST_remove 12 = .ok (.getfield 22, 3) := by decide +kernel
theorem xnd_ST_remove_15 : decode xnc_ST_remove 15 = .ok (.iload_n 2, 1) := by decide +kernel
theorem xnd_ST_remove_16 : decode xnc_ST_remove 16 = .ok (.iaload, 1) := by decide +kernel
theorem xnd_ST_remove_17 : decode xnc_ST_remove 17 = .ok (.iload_n 1, 1) := by decide +kernel
theorem xnd_ST_remove_18 : decode xnc_ST_remove 18 = .ok (.if_icmp .ne 10, 3) := by decide +kernel
theorem xnd_ST_remove_21 : decode xnc_ST_remove 21 = .ok (.aload_n 0, 1) := by decide +kernel
theorem xnd_ST_remove_22 : decode xnc_ST_remove 22 = .ok (.getfield 22, 3) := by decide +kernel
theorem xnd_ST_remove_25 : decode xnc_ST_remove 25 = .ok (.iload_n 2, 1) := by decide +kernel
theorem xnd_ST_remove_26 : decode xnc_ST_remove 26 = .ok (.iconst (-1), 1) := by decide +kernel
theorem xnd_ST_remove_27 : decode xnc_ST_remove 27 = .ok (.iastore, 1) := by decide +kernel
theorem xnd_ST_remove_28 : decode xnc_ST_remove 28 = .ok (.iinc 2 1, 3) := by decide +kernel
theorem xnd_ST_remove_31 : decode xnc_ST_remove 31 = .ok (.goto (-29), 3) := by decide +kernel
theorem xnd_ST_remove_34 : decode xnc_ST_remove 34 = .ok (.aload_n 0, 1) := by decide +kernel
theorem xnd_ST_remove_35 : decode xnc_ST_remove 35 = .ok (.getfield 48, 3) := by decide +kernel
theorem xnd_ST_remove_38 : decode xnc_ST_remove 38 = .ok (.iload_n 1, 1) := by decide +kernel
theorem xnd_ST_remove_39 : decode xnc_ST_remove 39 = .ok (.iconst 0, 1) := by decide +kernel
theorem xnd_ST_remove_40 : decode xnc_ST_remove 40 = .ok (.bastore, 1) := by decide +kernel
theorem xnd_ST_remove_41 : decode xnc_ST_remove 41 = .ok (.aload_n 0, 1) := by decide +kernel
theorem xnd_ST_remove_42 : decode xnc_ST_remove 42 = .ok (.dup, 1) := by decide +kernel
theorem xnd_ST_remove_43 : decode xnc_ST_remove 43 = .ok (.getfield 54, 3) := by decide +kernel
theorem xnd_ST_remove_46 : decode xnc_ST_remove 46 = .ok (.iconst 1, 1) := by decide +kernel
theorem xnd_ST_remove_47 : decode xnc_ST_remove 47 = .ok (.isub, 1) := by decide +kernel
theorem xnd_ST_remove_48 : decode xnc_ST_remove 48 = .ok (.putfield 54, 3) := by decide +kernel
theorem xnd_ST_remove_51 : decode xnc_ST_remove 51 = .ok (.aload_n 0, 1) := by decide +kernel
theorem xnd_ST_remove_52 : decode xnc_ST_remove 52 = .ok (.aload_n 0, 1) := by decide +kernel
theorem xnd_ST_remove_53 : decode xnc_ST_remove 53 = .ok (.getfield 32, 3) := by decide +kernel
theorem xnd_ST_remove_56 : decode xnc_ST_remove 56 = .ok (.iload_n 1, 1) := by decide +kernel
theorem xnd_ST_remove_57 : decode xnc_ST_remove 57 = .ok (.iaload, 1) := by decide +kernel
theorem xnd_ST_remove_58 : decode xnc_ST_remove 58 = .ok (.iconst 2, 1) := by decide +kernel
theorem xnd_ST_remove_59 : decode xnc_ST_remove 59 = .ok (.invokevirtual 85, 3) := by decide +kernel
theorem xnd_ST_remove_62 : decode xnc_ST_remove 62 = .ok (.return_, 1) := by decide +kernel
theorem xnd_ST_growVersion_0 : decode xnc_ST_growVersion 0 = .ok (.aload_n 0, 1) := by decide +kernel
theorem xnd_ST_growVersion_1 : decode xnc_ST_growVersion 1 = .ok (.getfield 51, 3) := by decide +kernel
theorem xnd_ST_growVersion_4 : decode xnc_ST_growVersion 4 = .ok (.iload_n 1, 1) := by decide +kernel
theorem xnd_ST_growVersion_5 : decode xnc_ST_growVersion 5 = .ok (.invokestatic 82, 3) := by decide +kernel
theorem xnd_ST_growVersion_8 : decode xnc_ST_growVersion 8 = .ok (.dup2, 1) := by decide +kernel
theorem xnd_ST_growVersion_9 : decode xnc_ST_growVersion 9 = .ok (.iaload, 1) := by decide +kernel
theorem xnd_ST_growVersion_10 : decode xnc_ST_growVersion 10 = .ok (.iload_n 2, 1) := by decide +kernel
theorem xnd_ST_growVersion_11 : decode xnc_ST_growVersion 11 = .ok (.iadd, 1) := by decide +kernel
theorem xnd_ST_growVersion_12 : decode xnc_ST_growVersion 12 = .ok (.iastore, 1) := by decide +kernel
theorem xnd_ST_growVersion_13 : decode xnc_ST_growVersion 13 = .ok (.return_, 1) := by decide +kernel
theorem xnd_SC_stripeOf_0 : decode xnc_SC_stripeOf 0 = .ok (.iload_n 0, 1) := by decide +kernel
theorem xnd_SC_stripeOf_1 : decode xnc_SC_stripeOf 1 = .ok (.invokestatic 162, 3) := by decide +kernel
theorem xnd_SC_stripeOf_4 : decode xnc_SC_stripeOf 4 = .ok (.bipush 23, 2) := by decide +kernel
theorem xnd_SC_stripeOf_6 : decode xnc_SC_stripeOf 6 = .ok (.iushr, 1) := by decide +kernel
theorem xnd_SC_stripeOf_7 : decode xnc_SC_stripeOf 7 = .ok (.iconst 3, 1) := by decide +kernel
theorem xnd_SC_stripeOf_8 : decode xnc_SC_stripeOf 8 = .ok (.iand, 1) := by decide +kernel
theorem xnd_SC_stripeOf_9 : decode xnc_SC_stripeOf 9 = .ok (.ireturn, 1) := by decide +kernel
theorem xnd_WR_chooseWhenFound_0 : decode xnc_WR_chooseWhenFound 0 = .ok (.aload_n 0, 1) := by decide +kernel
theorem xnd_WR_chooseWhenFound_1 : decode xnc_WR_chooseWhenFound 1 = .ok (.getfield 32, 3) := by decide +kernel
theorem xnd_WR_chooseWhenFound_4 : decode xnc_WR_chooseWhenFound 4 = .ok (.iconst 1, 1) := by decide +kernel
theorem xnd_WR_chooseWhenFound_5 : decode xnc_WR_chooseWhenFound 5 = .ok (.if_icmp .ne 11, 3) := by decide +kernel
theorem xnd_WR_chooseWhenFound_8 : decode xnc_WR_chooseWhenFound 8 = .ok (.aload_n 0, 1) := by decide +kernel
theorem xnd_WR_chooseWhenFound_9 : decode xnc_WR_chooseWhenFound 9 = .ok (.iconst 2, 1) := by decide +kernel
theorem xnd_WR_chooseWhenFound_10 : decode xnc_WR_chooseWhenFound 10 = .ok (.putfield 28, 3) := by decide +kernel
theorem xnd_WR_chooseWhenFound_13 : decode xnc_WR_chooseWhenFound 13 = .ok (.goto 69, 3) := by decide +kernel
theorem xnd_WR_chooseWhenFound_16 : decode xnc_WR_chooseWhenFound 16 = .ok (.aload_n 0, 1) := by decide +kernel
theorem xnd_WR_chooseWhenFound_17 : decode xnc_WR_chooseWhenFound 17 = .ok (.getfield 32, 3) := by decide +kernel
theorem xnd_WR_chooseWhenFound_20 : decode xnc_WR_chooseWhenFound 20 = .ok (.iconst 4, 1) := by decide +kernel
theorem xnd_WR_chooseWhenFound_21 : decode xnc_WR_chooseWhenFound 21 = .ok (.if_icmp .ne 19, 3) := by decide +kernel
theorem xnd_WR_chooseWhenFound_24 : decode xnc_WR_chooseWhenFound 24 = .ok (.aload_n 0, 1) := by decide +kernel
theorem xnd_WR_chooseWhenFound_25 : decode xnc_WR_chooseWhenFound 25 = .ok (.getfield 9, 3) := by decide +kernel
theorem xnd_WR_chooseWhenFound_28 : decode xnc_WR_chooseWhenFound 28 = .ok (.iload_n 1, 1) := by decide +kernel
theorem xnd_WR_chooseWhenFound_29 : decode xnc_WR_chooseWhenFound 29 = .ok (.invokevirtual 91, 3) := by decide +kernel
theorem xnd_WR_chooseWhenFound_32 : decode xnc_WR_chooseWhenFound 32 = .ok (.aload_n 0, 1) := by decide +kernel
theorem xnd_WR_chooseWhenFound_33 : decode xnc_WR_chooseWhenFound 33 = .ok (.iconst 5, 1) := by decide +kernel
theorem xnd_WR_chooseWhenFound_34 : decode xnc_WR_chooseWhenFound 34 = .ok (.putfield 28, 3) := by decide +kernel
theorem xnd_WR_chooseWhenFound_37 : decode xnc_WR_chooseWhenFound 37 = .ok (.goto 45, 3) := by decide +kernel
theorem xnd_WR_chooseWhenFound_40 : decode xnc_WR_chooseWhenFound 40 = .ok (.aload_n 0, 1) := by decide +kernel
theorem xnd_WR_chooseWhenFound_41 : decode xnc_WR_chooseWhenFound 41 = .ok (.getfield 32, 3) := by decide +kernel
theorem xnd_WR_chooseWhenFound_44 : decode xnc_WR_chooseWhenFound 44 = .ok (.iconst 3, 1) := by decide +kernel
theorem xnd_WR_chooseWhenFound_45 : decode xnc_WR_chooseWhenFound 45 = .ok (.if_icmp .ne 27, 3) := by decide +kernel
theorem xnd_WR_chooseWhenFound_48 : decode xnc_WR_chooseWhenFound 48 = .ok (.aload_n 0, 1) := by decide +kernel
theorem xnd_WR_chooseWhenFound_49 : decode xnc_WR_chooseWhenFound 49 = .ok (.getfield 9, 3) := by decide +kernel
theorem xnd_WR_chooseWhenFound_52 : decode xnc_WR_chooseWhenFound 52 = .ok (.getfield 106, 3) := by decide +kernel
theorem xnd_WR_chooseWhenFound_55 : decode xnc_WR_chooseWhenFound 55 = .ok (.iload_n 1, 1) := by decide +kernel
theorem xnd_WR_chooseWhenFound_56 : decode xnc_WR_chooseWhenFound 56 = .ok (.iaload, 1) := by decide +kernel
theorem xnd_WR_chooseWhenFound_57 : decode xnc_WR_chooseWhenFound 57 = .ok (.aload_n 0, 1) := by decide +kernel
theorem xnd_WR_chooseWhenFound_58 : decode xnc_WR_chooseWhenFound 58 = .ok (.getfield 44, 3) := by decide +kernel
theorem xnd_WR_chooseWhenFound_61 : decode xnc_WR_chooseWhenFound 61 = .ok (.if_icmp .eq 11, 3) := by decide +kernel
theorem xnd_WR_chooseWhenFound_64 : decode xnc_WR_chooseWhenFound 64 = .ok (.aload_n 0, 1) := by decide +kernel
theorem xnd_WR_chooseWhenFound_65 : decode xnc_WR_chooseWhenFound 65 = .ok (.iconst 3, 1) := by decide +kernel
theorem xnd_WR_chooseWhenFound_66 : decode xnc_WR_chooseWhenFound 66 = .ok (.putfield 28, 3) := by decide +kernel
theorem xnd_WR_chooseWhenFound_69 : decode xnc_WR_chooseWhenFound 69 = .ok (.goto 13, 3) := by decide +kernel
theorem xnd_WR_chooseWhenFound_72 : decode xnc_WR_chooseWhenFound 72 = .ok (.aload_n 0, 1) := by decide +kernel
theorem xnd_WR_chooseWhenFound_73 : decode xnc_WR_chooseWhenFound 73 = .ok (.iload_n 1, 1) := by decide +kernel
theorem xnd_WR_chooseWhenFound_74 : decode xnc_WR_chooseWhenFound 74 = .ok (.putfield 109, 3) := by decide +kernel
theorem xnd_WR_chooseWhenFound_77 : decode xnc_WR_chooseWhenFound 77 = .ok (.aload_n 0, 1) := by decide +kernel
theorem xnd_WR_chooseWhenFound_78 : decode xnc_WR_chooseWhenFound 78 = .ok (.iconst 1, 1) := by decide +kernel
theorem xnd_WR_chooseWhenFound_79 : decode xnc_WR_chooseWhenFound 79 = .ok (.putfield 47, 3) := by decide +kernel
theorem xnd_WR_chooseWhenFound_82 : decode xnc_WR_chooseWhenFound 82 = .ok (.return_, 1) := by decide +kernel
theorem xnd_WR_chooseWhenNotFound_0 : decode xnc_WR_chooseWhenNotFound 0 = .ok (.aload_n 0, 1) := by decide +kernel
theorem xnd_WR_chooseWhenNotFound_1 : decode xnc_WR_chooseWhenNotFound 1 = .ok (.getfield 32, 3) := by decide +kernel
theorem xnd_WR_chooseWhenNotFound_4 : decode xnc_WR_chooseWhenNotFound 4 = .ok (.iconst 2, 1) := by decide +kernel
theorem xnd_WR_chooseWhenNotFound_5 : decode xnc_WR_chooseWhenNotFound 5 = .ok (.if_icmp .ne 11, 3) := by decide +kernel
theorem xnd_WR_chooseWhenNotFound_8 : decode xnc_WR_chooseWhenNotFound 8 = .ok (.aload_n 0, 1) := by decide +kernel
theorem xnd_WR_chooseWhenNotFound_9 : decode xnc_WR_chooseWhenNotFound 9 = .ok (.iconst 2, 1) := by decide +kernel
theorem xnd_WR_chooseWhenNotFound_10 : decode xnc_WR_chooseWhenNotFound 10 = .ok (.putfield 28, 3) := by decide +kernel
theorem xnd_WR_chooseWhenNotFound_13 : decode xnc_WR_chooseWhenNotFound 13 = .ok (.goto 46, 3) := by decide +kernel
theorem xnd_WR_chooseWhenNotFound_16 : decode xnc_WR_chooseWhenNotFound 16 = .ok (.aload_n 0, 1) := by decide +kernel
theorem xnd_WR_chooseWhenNotFound_17 : decode xnc_WR_chooseWhenNotFound 17 = .ok (.getfield 32, 3) := by decide +kernel
theorem xnd_WR_chooseWhenNotFound_20 : decode xnc_WR_chooseWhenNotFound 20 = .ok (.iconst 3, 1) := by decide +kernel
theorem xnd_WR_chooseWhenNotFound_21 : decode xnc_WR_chooseWhenNotFound 21 = .ok (.if_icmp .eq 11, 3) := by decide +kernel
theorem xnd_WR_chooseWhenNotFound_24 : decode xnc_WR_chooseWhenNotFound 24 = .ok (.aload_n 0, 1) := by decide +kernel
theorem xnd_WR_chooseWhenNotFound_25 : decode xnc_WR_chooseWhenNotFound 25 = .ok (.getfield 32, 3) := by decide +kernel
theorem xnd_WR_chooseWhenNotFound_28 : decode xnc_WR_chooseWhenNotFound 28 = .ok (.iconst 4, 1) := by decide +kernel
theorem xnd_WR_chooseWhenNotFound_29 : decode xnc_WR_chooseWhenNotFound 29 = .ok (.if_icmp .ne 11, 3) := by decide +kernel
theorem xnd_WR_chooseWhenNotFound_32 : decode xnc_WR_chooseWhenNotFound 32 = .ok (.aload_n 0, 1) := by decide +kernel
theorem xnd_WR_chooseWhenNotFound_33 : decode xnc_WR_chooseWhenNotFound 33 = .ok (.iconst 4, 1) := by decide +kernel
theorem xnd_WR_chooseWhenNotFound_34 : decode xnc_WR_chooseWhenNotFound 34 = .ok (.putfield 28, 3) := by decide +kernel
theorem xnd_WR_chooseWhenNotFound_37 : decode xnc_WR_chooseWhenNotFound 37 = .ok (.goto 22, 3) := by decide +kernel
theorem xnd_WR_chooseWhenNotFound_40 : decode xnc_WR_chooseWhenNotFound 40 = .ok (.aload_n 0, 1) := by decide +kernel
theorem xnd_WR_chooseWhenNotFound_41 : decode xnc_WR_chooseWhenNotFound 41 = .ok (.aload_n 0, 1) := by decide +kernel
theorem xnd_WR_chooseWhenNotFound_42 : decode xnc_WR_chooseWhenNotFound 42 = .ok (.getfield 9, 3) := by decide +kernel
theorem xnd_WR_chooseWhenNotFound_45 : decode xnc_WR_chooseWhenNotFound 45 = .ok (.invokevirtual 112, 3) := by decide +kernel
theorem xnd_WR_chooseWhenNotFound_48 : decode xnc_WR_chooseWhenNotFound 48 = .ok (.ifCond .eq 7, 3) := by decide +kernel
theorem xnd_WR_chooseWhenNotFound_51 : decode xnc_WR_chooseWhenNotFound 51 = .ok (.iconst 3, 1) := by decide +kernel
theorem xnd_WR_chooseWhenNotFound_52 : decode xnc_WR_chooseWhenNotFound 52 = .ok (.goto 4, 3) := by decide +kernel
theorem xnd_WR_chooseWhenNotFound_55 : decode xnc_WR_chooseWhenNotFound 55 = .ok (.iconst 4, 1) := by decide +kernel
theorem xnd_WR_chooseWhenNotFound_56 : decode xnc_WR_chooseWhenNotFound 56 = .ok (.putfield 47, 3) := by decide +kernel
theorem xnd_WR_chooseWhenNotFound_59 : decode xnc_WR_chooseWhenNotFound 59 = .ok (.return_, 1) := by decide +kernel
theorem xnd_ST_isFull_0 : decode xnc_ST_isFull 0 = .ok (.aload_n 0, 1) := by decide +kernel
theorem xnd_ST_isFull_1 : decode xnc_ST_isFull 1 = .ok (.getfield 54, 3) := by decide +kernel
theorem xnd_ST_isFull_4 : decode xnc_ST_isFull 4 = .ok (.aload_n 0, 1) := by decide +kernel
theorem xnd_ST_isFull_5 : decode xnc_ST_isFull 5 = .ok (.getfield 15, 3) := by decide +kernel
theorem xnd_ST_isFull_8 : decode xnc_ST_isFull 8 = .ok (.if_icmp .ne 7, 3) := by decide +kernel
theorem xnd_ST_isFull_11 : decode xnc_ST_isFull 11 = .ok (.iconst 1, 1) := by decide +kernel
theorem xnd_ST_isFull_12 : decode xnc_ST_isFull 12 = .ok (.goto 4, 3) := by decide +kernel
theorem xnd_ST_isFull_15 : decode xnc_ST_isFull 15 = .ok (.iconst 0, 1) := by decide +kernel
theorem xnd_ST_isFull_16 : decode xnc_ST_isFull 16 = .ok (.ireturn, 1) := by decide +kernel
theorem xnd_WR_changeValue_0 : decode xnc_WR_changeValue 0 = .ok (.aload_n 0, 1) := by decide +kernel
theorem xnd_WR_changeValue_1 : decode xnc_WR_changeValue 1 = .ok (.getfield 9, 3) := by decide +kernel
theorem xnd_WR_changeValue_4 : decode xnc_WR_changeValue 4 = .ok (.aload_n 0, 1) := by decide +kernel
theorem xnd_WR_changeValue_5 : decode xnc_WR_changeValue 5 = .ok (.getfield 35, 3) := by decide +kernel
theorem xnd_WR_changeValue_8 : decode xnc_WR_changeValue 8 = .ok (.iconst 1, 1) := by decide +kernel
theorem xnd_WR_changeValue_9 : decode xnc_WR_changeValue 9 = .ok (.invokevirtual 116, 3) := by decide +kernel
theorem xnd_WR_changeValue_12 : decode xnc_WR_changeValue 12 = .ok (.aload_n 0, 1) := by decide +kernel
theorem xnd_WR_changeValue_13 : decode xnc_WR_changeValue 13 = .ok (.getfield 9, 3) := by decide +kernel
theorem xnd_WR_changeValue_16 : decode xnc_WR_changeValue 16 = .ok (.getfield 120, 3) := by decide +kernel
theorem xnd_WR_changeValue_19 : decode xnc_WR_changeValue 19 = .ok (.aload_n 0, 1) := by decide +kernel
theorem xnd_WR_changeValue_20 : decode xnc_WR_changeValue 20 = .ok (.getfield 109, 3) := by decide +kernel
theorem xnd_WR_changeValue_23 : decode xnc_WR_changeValue 23 = .ok (.aload_n 0, 1) := by decide +kernel
theorem xnd_WR_changeValue_24 : decode xnc_WR_changeValue 24 = .ok (.getfield 38, 3) := by decide +kernel
theorem xnd_WR_changeValue_27 : decode xnc_WR_changeValue 27 = .ok (.iastore, 1) := by decide +kernel
theorem xnd_WR_changeValue_28 : decode xnc_WR_changeValue 28 = .ok (.aload_n 0, 1) := by decide +kernel
theorem xnd_WR_changeValue_29 : decode xnc_WR_changeValue 29 = .ok (.iconst 2, 1) := by decide +kernel
theorem xnd_WR_changeValue_30 : decode xnc_WR_changeValue 30 = .ok (.putfield 47, 3) := by decide +kernel
theorem xnd_WR_changeValue_33 : decode xnc_WR_changeValue 33 = .ok (.return_, 1) := by decide +kernel
theorem xnd_WR_changeToken_0 : decode xnc_WR_changeToken 0 = .ok (.aload_n 0, 1) := by decide +kernel
theorem xnd_WR_changeToken_1 : decode xnc_WR_changeToken 1 = .ok (.getfield 9, 3) := by decide +kernel
theorem xnd_WR_changeToken_4 : decode xnc_WR_changeToken 4 = .ok (.aload_n 0, 1) := by decide +kernel
theorem xnd_WR_changeToken_5 : decode xnc_WR_changeToken 5 = .ok (.getfield 109, 3) := by decide +kernel
theorem xnd_WR_changeToken_8 : decode xnc_WR_changeToken 8 = .ok (.aload_n 0, 1) := by decide +kernel
theorem xnd_WR_changeToken_9 : decode xnc_WR_changeToken 9 = .ok (.getfield 41, 3) := by decide +kernel
theorem xnd_WR_changeToken_12 : decode xnc_WR_changeToken 12 = .ok (.invokevirtual 123, 3) := by decide +kernel
theorem xnd_WR_changeToken_15 : decode xnc_WR_changeToken 15 = .ok (.aload_n 0, 1) := by decide +kernel
theorem xnd_WR_changeToken_16 : decode xnc_WR_changeToken 16 = .ok (.getfield 9, 3) := by decide +kernel
theorem xnd_WR_changeToken_19 : decode xnc_WR_changeToken 19 = .ok (.aload_n 0, 1) := by decide +kernel
theorem xnd_WR_changeToken_20 : decode xnc_WR_changeToken 20 = .ok (.getfield 35, 3) := by decide +kernel
theorem xnd_WR_changeToken_23 : decode xnc_WR_changeToken 23 = .ok (.iconst 1, 1) := by decide +kernel
theorem xnd_WR_changeToken_24 : decode xnc_WR_changeToken 24 = .ok (.invokevirtual 116, 3) := by decide +kernel
theorem xnd_WR_changeToken_27 : decode xnc_WR_changeToken 27 = .ok (.aload_n 0, 1) := by decide +kernel
theorem xnd_WR_changeToken_28 : decode xnc_WR_changeToken 28 = .ok (.iconst 1, 1) := by decide +kernel
theorem xnd_WR_changeToken_29 : decode xnc_WR_changeToken 29 = .ok (.putfield 28, 3) := by decide +kernel
theorem xnd_WR_changeToken_32 : decode xnc_WR_changeToken 32 = .ok (.return_, 1) := by decide +kernel
theorem xnd_ST_renew_0 : decode xnc_ST_renew 0 = .ok (.aload_n 0, 1) := by decide +kernel
theorem xnd_ST_renew_1 : decode xnc_ST_renew 1 = .ok (.dup, 1) := by decide +kernel
theorem xnd_ST_renew_2 : decode xnc_ST_renew 2 = .ok (.getfield 89, 3) := by decide +kernel
theorem xnd_ST_renew_5 : decode xnc_ST_renew 5 = .ok (.iconst 1, 1) := by decide +kernel
theorem xnd_ST_renew_6 : decode xnc_ST_renew 6 = .ok (.iadd, 1) := by decide +kernel
theorem xnd_ST_renew_7 : decode xnc_ST_renew 7 = .ok (.putfield 89, 3) := by decide +kernel
theorem xnd_ST_renew_10 : decode xnc_ST_renew 10 = .ok (.aload_n 0, 1) := by decide +kernel
theorem xnd_ST_renew_11 : decode xnc_ST_renew 11 = .ok (.getfield 38, 3) := by decide +kernel
theorem xnd_ST_renew_14 : decode xnc_ST_renew 14 = .ok (.iload_n 1, 1) := by decide +kernel
theorem xnd_ST_renew_15 : decode xnc_ST_renew 15 = .ok (.aload_n 0, 1) := by decide +kernel
theorem xnd_ST_renew_16 : decode xnc_ST_renew 16 = .ok (.getfield 89, 3) := by decide +kernel
theorem xnd_ST_renew_19 : decode xnc_ST_renew 19 = .ok (.iastore, 1) := by decide +kernel
theorem xnd_ST_renew_20 : decode xnc_ST_renew 20 = .ok (.aload_n 0, 1) := by decide +kernel
theorem xnd_ST_renew_21 : decode xnc_ST_renew 21 = .ok (.getfield 41, 3) := by decide +kernel
theorem xnd_ST_renew_24 : decode xnc_ST_renew 24 = .ok (.iload_n 1, 1) := by decide +kernel
theorem xnd_ST_renew_25 : decode xnc_ST_renew 25 = .ok (.iload_n 2, 1) := by decide +kernel
theorem xnd_ST_renew_26 : decode xnc_ST_renew 26 = .ok (.ifCond .ne 7, 3) := by decide +kernel
theorem xnd_ST_renew_29 : decode xnc_ST_renew 29 = .ok (.iconst 0, 1) := by decide +kernel
theorem xnd_ST_renew_30 : decode xnc_ST_renew 30 = .ok (.goto 9, 3) := by decide +kernel
theorem xnd_ST_renew_33 : decode xnc_ST_renew 33 = .ok (.aload_n 0, 1) := by decide +kernel
theorem xnd_ST_renew_34 : decode xnc_ST_renew 34 = .ok (.getfield 57, 3) := by decide +kernel
theorem xnd_ST_renew_37 : decode xnc_ST_renew 37 = .ok (.iload_n 2, 1) := by decide +kernel
theorem xnd_ST_renew_38 : decode xnc_ST_renew 38 = .ok (.iadd, 1) := by decide +kernel
theorem xnd_ST_renew_39 : decode xnc_ST_renew 39 = .ok (.iastore, 1) := by decide +kernel
theorem xnd_ST_renew_40 : decode xnc_ST_renew 40 = .ok (.return_, 1) := by decide +kernel
theorem xnd_WR_evict_0 : decode xnc_WR_evict 0 = .ok (.iconst 0, 1) := by decide +kernel
theorem xnd_WR_evict_1 : decode xnc_WR_evict 1 = .ok (.istore_n 1, 1) := by decide +kernel
theorem xnd_WR_evict_2 : decode xnc_WR_evict 2 = .ok (.iload_n 1, 1) := by decide +kernel
theorem xnd_WR_evict_3 : decode xnc_WR_evict 3 = .ok (.aload_n 0, 1) := by decide +kernel
theorem xnd_WR_evict_4 : decode xnc_WR_evict 4 = .ok (.getfield 9, 3) := by decide +kernel
theorem xnd_WR_evict_7 : decode xnc_WR_evict 7 = .ok (.getfield 126, 3) := by decide +kernel
theorem xnd_WR_evict_10 : decode xnc_WR_evict 10 = .ok (.if_icmp .ge 41, 3) := by decide +kernel
theorem xnd_WR_evict_13 : decode xnc_WR_evict 13 = .ok (.aload_n 0, 1) := by decide +kernel
theorem xnd_WR_evict_14 : decode xnc_WR_evict 14 = .ok (.getfield 9, 3) := by decide +kernel
theorem xnd_WR_evict_17 : decode xnc_WR_evict 17 = .ok (.getfield 129, 3) := by decide +kernel
theorem xnd_WR_evict_20 : decode xnc_WR_evict 20 = .ok (.aload_n 0, 1) := by decide +kernel
theorem xnd_WR_evict_21 : decode xnc_WR_evict 21 = .ok (.getfield 133, 3) := by decide +kernel
theorem xnd_WR_evict_24 : decode xnc_WR_evict 24 = .ok (.baload, 1) := by decide +kernel
theorem xnd_WR_evict_25 : decode xnc_WR_evict 25 = .ok (.ifCond .eq 26, 3) := by decide +kernel
theorem xnd_WR_evict_28 : decode xnc_WR_evict 28 = .ok (.aload_n 0, 1) := by decide +kernel
theorem xnd_WR_evict_29 : decode xnc_WR_evict 29 = .ok (.getfield 9, 3) := by decide +kernel
theorem xnd_WR_evict_32 : decode xnc_WR_evict 32 = .ok (.getfield 129, 3) := by decide +kernel
theorem xnd_WR_evict_35 : decode xnc_WR_evict 35 = .ok (.aload_n 0, 1) := by decide +kernel
theorem xnd_WR_evict_36 : decode xnc_WR_evict 36 = .ok (.getfield 133, 3) := by decide +kernel
theorem xnd_WR_evict_39 : decode xnc_WR_evict 39 = .ok (.iconst 0, 1) := by decide +kernel
theorem xnd_WR_evict_40 : decode xnc_WR_evict 40 = .ok (.bastore, 1) := by decide +kernel
theorem xnd_WR_evict_41 : decode xnc_WR_evict 41 = .ok (.aload_n 0, 1) := by decide +kernel
theorem xnd_WR_evict_42 : decode xnc_WR_evict 42 = .ok (.invokevirtual 136, 3) := by decide +kernel
theorem xnd_WR_evict_45 : decode xnc_WR_evict 45 = .ok (.iinc 1 1, 3) := by decide +kernel
theorem xnd_WR_evict_48 : decode xnc_WR_evict 48 = .ok (.goto (-46), 3) := by decide +kernel
theorem xnd_WR_evict_51 : decode xnc_WR_evict 51 = .ok (.aload_n 0, 1) := by decide +kernel
theorem xnd_WR_evict_52 : decode xnc_WR_evict 52 = .ok (.getfield 9, 3) := by decide +kernel
theorem xnd_WR_evict_55 : decode xnc_WR_evict 55 = .ok (.aload_n 0, 1) := by decide +kernel
theorem xnd_WR_evict_56 : decode xnc_WR_evict 56 = .ok (.getfield 133, 3) := by decide +kernel
theorem xnd_WR_evict_59 : decode xnc_WR_evict 59 = .ok (.invokevirtual 91, 3) := by decide +kernel
theorem xnd_WR_evict_62 : decode xnc_WR_evict 62 = .ok (.aload_n 0, 1) := by decide +kernel
theorem xnd_WR_evict_63 : decode xnc_WR_evict 63 = .ok (.invokevirtual 136, 3) := by decide +kernel
theorem xnd_WR_evict_66 : decode xnc_WR_evict 66 = .ok (.aload_n 0, 1) := by decide +kernel
theorem xnd_WR_evict_67 : decode xnc_WR_evict 67 = .ok (.getfield 15, 3) := by decide +kernel
theorem xnd_WR_evict_70 : decode xnc_WR_evict 70 = .ok (.dup, 1) := by decide +kernel
theorem xnd_WR_evict_71 : decode xnc_WR_evict 71 = .ok (.getfield 139, 3) := by decide +kernel
theorem xnd_WR_evict_74 : decode xnc_WR_evict 74 = .ok (.iconst 1, 1) := by decide +kernel
theorem xnd_WR_evict_75 : decode xnc_WR_evict 75 = .ok (.iadd, 1) := by decide +kernel
theorem xnd_WR_evict_76 : decode xnc_WR_evict 76 = .ok (.putfield 139, 3) := by decide +kernel
theorem xnd_WR_evict_79 : decode xnc_WR_evict 79 = .ok (.aload_n 0, 1) := by decide +kernel
theorem xnd_WR_evict_80 : decode xnc_WR_evict 80 = .ok (.iconst 4, 1) := by decide +kernel
theorem xnd_WR_evict_81 : decode xnc_WR_evict 81 = .ok (.putfield 47, 3) := by decide +kernel
theorem xnd_WR_evict_84 : decode xnc_WR_evict 84 = .ok (.return_, 1) := by decide +kernel
theorem xnd_WR_turnHand_0 : decode xnc_WR_turnHand 0 = .ok (.aload_n 0, 1) := by decide +kernel
theorem xnd_WR_turnHand_1 : decode xnc_WR_turnHand 1 = .ok (.aload_n 0, 1) := by decide +kernel
theorem xnd_WR_turnHand_2 : decode xnc_WR_turnHand 2 = .ok (.getfield 133, 3) := by decide +kernel
theorem xnd_WR_turnHand_5 : decode xnc_WR_turnHand 5 = .ok (.iconst 1, 1) := by decide +kernel
theorem xnd_WR_turnHand_6 : decode xnc_WR_turnHand 6 = .ok (.iadd, 1) := by decide +kernel
theorem xnd_WR_turnHand_7 : decode xnc_WR_turnHand 7 = .ok (.aload_n 0, 1) := by decide +kernel
theorem xnd_WR_turnHand_8 : decode xnc_WR_turnHand 8 = .ok (.getfield 9, 3) := by decide +kernel
theorem xnd_WR_turnHand_11 : decode xnc_WR_turnHand 11 = .ok (.getfield 126, 3) := by decide +kernel
theorem xnd_WR_turnHand_14 : decode xnc_WR_turnHand 14 = .ok (.if_icmp .ge 12, 3) := by decide +kernel
theorem xnd_WR_turnHand_17 : decode xnc_WR_turnHand 17 = .ok (.aload_n 0, 1) := by decide +kernel
theorem xnd_WR_turnHand_18 : decode xnc_WR_turnHand 18 = .ok (.getfield 133, 3) := by decide +kernel
theorem xnd_WR_turnHand_21 : decode xnc_WR_turnHand 21 = .ok (.iconst 1, 1) := by decide +kernel
theorem xnd_WR_turnHand_22 : decode xnc_WR_turnHand 22 = .ok (.iadd, 1) := by decide +kernel
theorem xnd_WR_turnHand_23 : decode xnc_WR_turnHand 23 = .ok (.goto 4, 3) := by decide +kernel
theorem xnd_WR_turnHand_26 : decode xnc_WR_turnHand 26 = .ok (.iconst 0, 1) := by decide +kernel
theorem xnd_WR_turnHand_27 : decode xnc_WR_turnHand 27 = .ok (.putfield 133, 3) := by decide +kernel
theorem xnd_WR_turnHand_30 : decode xnc_WR_turnHand 30 = .ok (.return_, 1) := by decide +kernel
theorem xnd_WR_seekPath_0 : decode xnc_WR_seekPath 0 = .ok (.aload_n 0, 1) := by decide +kernel
theorem xnd_WR_seekPath_1 : decode xnc_WR_seekPath 1 = .ok (.getfield 24, 3) := by decide +kernel
theorem xnd_WR_seekPath_4 : decode xnc_WR_seekPath 4 = .ok (.aload_n 0, 1) := by decide +kernel
theorem xnd_WR_seekPath_5 : decode xnc_WR_seekPath 5 = .ok (.getfield 35, 3) := by decide +kernel
theorem xnd_WR_seekPath_8 : decode xnc_WR_seekPath 8 = .ok (.invokevirtual 142, 3) := by decide +kernel
theorem xnd_WR_seekPath_11 : decode xnc_WR_seekPath 11 = .ok (.ifCond .eq 21, 3) := by decide +kernel
theorem xnd_WR_seekPath_14 : decode xnc_WR_seekPath 14 = .ok (.aload_n 0, 1) := by decide +kernel
theorem xnd_WR_seekPath_15 : decode xnc_WR_seekPath 15 = .ok (.aload_n 0, 1) := by decide +kernel
theorem xnd_WR_seekPath_16 : decode xnc_WR_seekPath 16 = .ok (.getfield 24, 3) := by decide +kernel
theorem xnd_WR_seekPath_19 : decode xnc_WR_seekPath 19 = .ok (.getfield 145, 3) := by decide +kernel
theorem xnd_WR_seekPath_22 : decode xnc_WR_seekPath 22 = .ok (.putfield 148, 3) := by decide +kernel
theorem xnd_WR_seekPath_25 : decode xnc_WR_seekPath 25 = .ok (.aload_n 0, 1) := by decide +kernel
theorem xnd_WR_seekPath_26 : decode xnc_WR_seekPath 26 = .ok (.invokevirtual 151, 3) := by decide +kernel
theorem xnd_WR_seekPath_29 : decode xnc_WR_seekPath 29 = .ok (.goto 9, 3) := by decide +kernel
theorem xnd_WR_seekPath_32 : decode xnc_WR_seekPath 32 = .ok (.aload_n 0, 1) := by decide +kernel
theorem xnd_WR_seekPath_33 : decode xnc_WR_seekPath 33 = .ok (.bipush 6, 2) := by decide +kernel
theorem xnd_WR_seekPath_35 : decode xnc_WR_seekPath 35 = .ok (.putfield 28, 3) := by decide +kernel
theorem xnd_WR_seekPath_38 : decode xnc_WR_seekPath 38 = .ok (.return_, 1) := by decide +kernel
theorem xnd_PA_seek_0 : decode xnc_PA_seek 0 = .ok (.aload_n 0, 1) := by decide +kernel
theorem xnd_PA_seek_1 : decode xnc_PA_seek 1 = .ok (.iconst 0, 1) := by decide +kernel
theorem xnd_PA_seek_2 : decode xnc_PA_seek 2 = .ok (.putfield 33, 3) := by decide +kernel
theorem xnd_PA_seek_5 : decode xnc_PA_seek 5 = .ok (.aload_n 0, 1) := by decide +kernel
theorem xnd_PA_seek_6 : decode xnc_PA_seek 6 = .ok (.getfield 30, 3) := by decide +kernel
theorem xnd_PA_seek_9 : decode xnc_PA_seek 9 = .ok (.iconst (-1), 1) := by decide +kernel
theorem xnd_PA_seek_10 : decode xnc_PA_seek 10 = .ok (.invokestatic 37, 3) := by decide +kernel
theorem xnd_PA_seek_13 : decode xnc_PA_seek 13 = .ok (.aload_n 0, 1) := by decide +kernel
theorem xnd_PA_seek_14 : decode xnc_PA_seek 14 = .ok (.iload_n 1, 1) := by decide +kernel
theorem xnd_PA_seek_15 : decode xnc_PA_seek 15 = .ok (.invokestatic 43, 3) := by decide +kernel
theorem xnd_PA_seek_18 : decode xnc_PA_seek 18 = .ok (.iconst (-1), 1) := by decide +kernel
theorem xnd_PA_seek_19 : decode xnc_PA_seek 19 = .ok (.iconst 0, 1) := by decide +kernel
theorem xnd_PA_seek_20 : decode xnc_PA_seek 20 = .ok (.invokevirtual 47, 3) := by decide +kernel
theorem xnd_PA_seek_23 : decode xnc_PA_seek 23 = .ok (.aload_n 0, 1) := by decide +kernel
theorem xnd_PA_seek_24 : decode xnc_PA_seek 24 = .ok (.iload_n 1, 1) := by decide +kernel
theorem xnd_PA_seek_25 : decode xnc_PA_seek 25 = .ok (.invokestatic 51, 3) := by decide +kernel
theorem xnd_PA_seek_28 : decode xnc_PA_seek 28 = .ok (.iconst (-1), 1) := by decide +kernel
theorem xnd_PA_seek_29 : decode xnc_PA_seek 29 = .ok (.iconst 0, 1) := by decide +kernel
theorem xnd_PA_seek_30 : decode xnc_PA_seek 30 = .ok (.invokevirtual 47, 3) := by decide +kernel
theorem xnd_PA_seek_33 : decode xnc_PA_seek 33 = .ok (.iconst 0, 1) := by decide +kernel
theorem xnd_PA_seek_34 : decode xnc_PA_seek 34 = .ok (.istore_n 2, 1) := by decide +kernel
theorem xnd_PA_seek_35 : decode xnc_PA_seek 35 = .ok (.iload_n 2, 1) := by decide +kernel
theorem xnd_PA_seek_36 : decode xnc_PA_seek 36 = .ok (.aload_n 0, 1) := by decide +kernel
theorem xnd_PA_seek_37 : decode xnc_PA_seek 37 = .ok (.getfield 24, 3) := by decide +kernel
theorem xnd_PA_seek_40 : decode xnc_PA_seek 40 = .ok (.arraylength, 1) := by decide +kernel
theorem xnd_PA_seek_41 : decode xnc_PA_seek 41 = .ok (.if_icmp .ge 96, 3) := by decide +kernel
theorem xnd_PA_seek_44 : decode xnc_PA_seek 44 = .ok (.iload_n 2, 1) := by decide +kernel
theorem xnd_PA_seek_45 : decode xnc_PA_seek 45 = .ok (.aload_n 0, 1) := by decide +kernel
theorem xnd_PA_seek_46 : decode xnc_PA_seek 46 = .ok (.getfield 33, 3) := by decide +kernel
theorem xnd_PA_seek_49 : decode xnc_PA_seek 49 = .ok (.if_icmp .ge 88, 3) := by decide +kernel
theorem xnd_PA_seek_52 : decode xnc_PA_seek 52 = .ok (.aload_n 0, 1) := by decide +kernel
theorem xnd_PA_seek_53 : decode xnc_PA_seek 53 = .ok (.getfield 24, 3) := by decide +kernel
theorem xnd_PA_seek_56 : decode xnc_PA_seek 56 = .ok (.iload_n 2, 1) := by decide +kernel
theorem xnd_PA_seek_57 : decode xnc_PA_seek 57 = .ok (.iaload, 1) := by decide +kernel
theorem xnd_PA_seek_58 : decode xnc_PA_seek 58 = .ok (.istore_n 3, 1) := by decide +kernel
theorem xnd_PA_seek_59 : decode xnc_PA_seek 59 = .ok (.aload_n 0, 1) := by decide +kernel
theorem xnd_PA_seek_60 : decode xnc_PA_seek 60 = .ok (.getfield 9, 3) := by decide +kernel
theorem xnd_PA_seek_63 : decode xnc_PA_seek 63 = .ok (.getfield 19, 3) := by decide +kernel
theorem xnd_PA_seek_66 : decode xnc_PA_seek 66 = .ok (.iload_n 3, 1) := by decide +kernel
theorem xnd_PA_seek_67 : decode xnc_PA_seek 67 = .ok (.iaload, 1) := by decide +kernel
theorem xnd_PA_seek_68 : decode xnc_PA_seek 68 = .ok (.iconst (-1), 1) := by decide +kernel
theorem xnd_PA_seek_69 : decode xnc_PA_seek 69 = .ok (.if_icmp .ne 10, 3) := by decide +kernel
theorem xnd_PA_seek_72 : decode xnc_PA_seek 72 = .ok (.aload_n 0, 1) := by decide +kernel
theorem xnd_PA_seek_73 : decode xnc_PA_seek 73 = .ok (.iload_n 3, 1) := by decide +kernel
theorem xnd_PA_seek_74 : decode xnc_PA_seek 74 = .ok (.invokevirtual 54, 3) := by decide +kernel
theorem xnd_PA_seek_77 : decode xnc_PA_seek 77 = .ok (.iconst 1, 1) := by decide +kernel
theorem xnd_PA_seek_78 : decode xnc_PA_seek 78 = .ok (.ireturn, 1) := by decide +kernel
theorem xnd_PA_seek_79 : decode xnc_PA_seek 79 = .ok (.aload_n 0, 1) := by decide +kernel
theorem xnd_PA_seek_80 : decode xnc_PA_seek 80 = .ok (.getfield 30, 3) := by decide +kernel
theorem xnd_PA_seek_83 : decode xnc_PA_seek 83 = .ok (.iload_n 3, 1) := by decide +kernel
theorem xnd_PA_seek_84 : decode xnc_PA_seek 84 = .ok (.iaload, 1) := by decide +kernel
theorem xnd_PA_seek_85 : decode xnc_PA_seek 85 = .ok (.iconst 4, 1) := by decide +kernel
theorem xnd_PA_seek_86 : decode xnc_PA_seek 86 = .ok (.if_icmp .ge 45, 3) := by decide +kernel
theorem xnd_PA_seek_89 : decode xnc_PA_seek 89 = .ok (.aload_n 0, 1) := by decide +kernel
theorem xnd_PA_seek_90 : decode xnc_PA_seek 90 = .ok (.iload_n 3, 1) := by decide +kernel
theorem xnd_PA_seek_91 : decode xnc_PA_seek 91 = .ok (.aload_n 0, 1) := by decide +kernel
theorem xnd_PA_seek_92 : decode xnc_PA_seek 92 = .ok (.getfield 9, 3) := by decide +kernel
theorem xnd_PA_seek_95 : decode xnc_PA_seek 95 = .ok (.getfield 58, 3) := by decide +kernel
theorem xnd_PA_seek_98 : decode xnc_PA_seek 98 = .ok (.idiv, 1) := by decide +kernel
theorem xnd_PA_seek_99 : decode xnc_PA_seek 99 = .ok (.aload_n 0, 1) := by decide +kernel
theorem xnd_PA_seek_100 : decode xnc_PA_seek 100 = .ok (.getfield 9, 3) := by decide +kernel
theorem xnd_PA_seek_103 : decode xnc_PA_seek 103 = .ok (.getfield 61, 3) := by decide +kernel
theorem xnd_PA_seek_106 : decode xnc_PA_seek 106 = .ok (.aload_n 0, 1) := by decide +kernel
theorem xnd_PA_seek_107 : decode xnc_PA_seek 107 = .ok (.getfield 9, 3) := by decide +kernel
theorem xnd_PA_seek_110 : decode xnc_PA_seek 110 = .ok (.getfield 19, 3) := by decide +kernel
theorem xnd_PA_seek_113 : decode xnc_PA_seek 113 = .ok (.iload_n 3, 1) := by decide +kernel
theorem xnd_PA_seek_114 : decode xnc_PA_seek 114 = .ok (.iaload, 1) := by decide +kernel
theorem xnd_PA_seek_115 : decode xnc_PA_seek 115 = .ok (.iaload, 1) := by decide +kernel
theorem xnd_PA_seek_116 : decode xnc_PA_seek 116 = .ok (.invokestatic 64, 3) := by decide +kernel
theorem xnd_PA_seek_119 : decode xnc_PA_seek 119 = .ok (.iload_n 3, 1) := by decide +kernel
theorem xnd_PA_seek_120 : decode xnc_PA_seek 120 = .ok (.aload_n 0, 1) := by decide +kernel
theorem xnd_PA_seek_121 : decode xnc_PA_seek 121 = .ok (.getfield 30, 3) := by decide +kernel
theorem xnd_PA_seek_124 : decode xnc_PA_seek 124 = .ok (.iload_n 3, 1) := by decide +kernel
theorem xnd_PA_seek_125 : decode xnc_PA_seek 125 = .ok (.iaload, 1) := by decide +kernel
theorem xnd_PA_seek_126 : decode xnc_PA_seek 126 = .ok (.iconst 1, 1) := by decide +kernel
theorem xnd_PA_seek_127 : decode xnc_PA_seek 127 = .ok (.iadd, 1) := by decide +kernel
theorem xnd_PA_seek_128 : decode xnc_PA_seek 128 = .ok (.invokevirtual 47, 3) := by decide +kernel
theorem xnd_PA_seek_131 : decode xnc_PA_seek 131 = .ok (.iinc 2 1, 3) := by decide +kernel
theorem xnd_PA_seek_134 : decode xnc_PA_seek 134 = .ok (.goto (-99), 3) := by decide +kernel
theorem xnd_PA_seek_137 : decode xnc_PA_seek 137 = .ok (.iconst 0, 1) := by decide +kernel
theorem xnd_PA_seek_138 : decode xnc_PA_seek 138 = .ok (.ireturn, 1) := by decide +kernel
theorem xnd_PA_enter_0 : decode xnc_PA_enter 0 = .ok (.aload_n 0, 1) := by decide +kernel
theorem xnd_PA_enter_1 : decode xnc_PA_enter 1 = .ok (.getfield 9, 3) := by decide +kernel
theorem xnd_PA_enter_4 : decode xnc_PA_enter 4 = .ok (.getfield 58, 3) := by decide +kernel
theorem xnd_PA_enter_7 : decode xnc_PA_enter 7 = .ok (.iload_n 1, 1) := by decide +kernel
theorem xnd_PA_enter_8 : decode xnc_PA_enter 8 = .ok (.iconst 1, 1) := by decide +kernel
theorem xnd_PA_enter_9 : decode xnc_PA_enter 9 = .ok (.iadd, 1) := by decide +kernel
theorem xnd_PA_enter_10 : decode xnc_PA_enter 10 = .ok (.imul, 1) := by decide +kernel
theorem xnd_PA_enter_11 : decode xnc_PA_enter 11 = .ok (.istore 4, 2) := by decide +kernel
theorem xnd_PA_enter_13 : decode xnc_PA_enter 13 = .ok (.aload_n 0, 1) := by decide +kernel
theorem xnd_PA_enter_14 : decode xnc_PA_enter 14 = .ok (.getfield 9, 3) := by decide +kernel
theorem xnd_PA_enter_17 : decode xnc_PA_enter 17 = .ok (.getfield 58, 3) := by decide +kernel
theorem xnd_PA_enter_20 : decode xnc_PA_enter 20 = .ok (.iload_n 1, 1) := by decide +kernel
theorem xnd_PA_enter_21 : decode xnc_PA_enter 21 = .ok (.imul, 1) := by decide +kernel
theorem xnd_PA_enter_22 : decode xnc_PA_enter 22 = .ok (.istore 5, 2) := by decide +kernel
theorem xnd_PA_enter_24 : decode xnc_PA_enter 24 = .ok (.iload 5, 2) := by decide +kernel
theorem xnd_PA_enter_26 : decode xnc_PA_enter 26 = .ok (.iload 4, 2) := by decide +kernel
theorem xnd_PA_enter_28 : decode xnc_PA_enter 28 = .ok (.if_icmp .ge 57, 3) := by decide +kernel
theorem xnd_PA_enter_31 : decode xnc_PA_enter 31 = .ok (.aload_n 0, 1) := by decide +kernel
theorem xnd_PA_enter_32 : decode xnc_PA_enter 32 = .ok (.getfield 30, 3) := by decide +kernel
theorem xnd_PA_enter_35 : decode xnc_PA_enter 35 = .ok (.iload 5, 2) := by decide +kernel
theorem xnd_PA_enter_37 : decode xnc_PA_enter 37 = .ok (.iaload, 1) := by decide +kernel
theorem xnd_PA_enter_38 : decode xnc_PA_enter 38 = .ok (.iconst (-1), 1) := by decide +kernel
theorem xnd_PA_enter_39 : decode xnc_PA_enter 39 = .ok (.if_icmp .ne 40, 3) := by decide +kernel
theorem xnd_PA_enter_42 : decode xnc_PA_enter 42 = .ok (.aload_n 0, 1) := by decide +kernel
theorem xnd_PA_enter_43 : decode xnc_PA_enter 43 = .ok (.getfield 30, 3) := by decide +kernel
theorem xnd_PA_enter_46 : decode xnc_PA_enter 46 = .ok (.iload 5, 2) := by decide +kernel
theorem xnd_PA_enter_48 : decode xnc_PA_enter 48 = .ok (.iload_n 3, 1) := by decide +kernel
theorem xnd_PA_enter_49 : decode xnc_PA_enter 49 = .ok (.iastore, 1) := by decide +kernel
theorem xnd_PA_enter_50 : decode xnc_PA_enter 50 = .ok (.aload_n 0, 1) := by decide +kernel
theorem xnd_PA_enter_51 : decode xnc_PA_enter 51 = .ok (.getfield 27, 3) := by decide +kernel
theorem xnd_PA_enter_54 : decode xnc_PA_enter 54 = .ok (.iload 5, 2) := by decide +kernel
theorem xnd_PA_enter_56 : decode xnc_PA_enter 56 = .ok (.iload_n 2, 1) := by decide +kernel
theorem xnd_PA_enter_57 : decode xnc_PA_enter 57 = .ok (.iastore, 1) := by decide +kernel
theorem xnd_PA_enter_58 : decode xnc_PA_enter 58 = .ok (.aload_n 0, 1) := by decide +kernel
theorem xnd_PA_enter_59 : decode xnc_PA_enter 59 = .ok (.getfield 24, 3) := by decide +kernel
theorem xnd_PA_enter_62 : decode xnc_PA_enter 62 = .ok (.aload_n 0, 1) := by decide +kernel
theorem xnd_PA_enter_63 : decode xnc_PA_enter 63 = .ok (.getfield 33, 3) := by decide +kernel
theorem xnd_PA_enter_66 : decode xnc_PA_enter 66 = .ok (.iload 5, 2) := by decide +kernel
theorem xnd_PA_enter_68 : decode xnc_PA_enter 68 = .ok (.iastore, 1) := by decide +kernel
theorem xnd_PA_enter_69 : decode xnc_PA_enter 69 = .ok (.aload_n 0, 1) := by decide +kernel
theorem xnd_PA_enter_70 : decode xnc_PA_enter 70 = .ok (.dup, 1) := by decide +kernel
theorem xnd_PA_enter_71 : decode xnc_PA_enter 71 = .ok (.getfield 33, 3) := by decide +kernel
theorem xnd_PA_enter_74 : decode xnc_PA_enter 74 = .ok (.iconst 1, 1) := by decide +kernel
theorem xnd_PA_enter_75 : decode xnc_PA_enter 75 = .ok (.iadd, 1) := by decide +kernel
theorem xnd_PA_enter_76 : decode xnc_PA_enter 76 = .ok (.putfield 33, 3) := by decide +kernel
theorem xnd_PA_enter_79 : decode xnc_PA_enter 79 = .ok (.iinc 5 1, 3) := by decide +kernel
theorem xnd_PA_enter_82 : decode xnc_PA_enter 82 = .ok (.goto (-58), 3) := by decide +kernel
theorem xnd_PA_enter_85 : decode xnc_PA_enter 85 = .ok (.return_, 1) := by decide +kernel
theorem xnd_PA_keep_0 : decode xnc_PA_keep 0 = .ok (.aload_n 0, 1) := by decide +kernel
theorem xnd_PA_keep_1 : decode xnc_PA_keep 1 = .ok (.aload_n 0, 1) := by decide +kernel
theorem xnd_PA_keep_2 : decode xnc_PA_keep 2 = .ok (.getfield 30, 3) := by decide +kernel
theorem xnd_PA_keep_5 : decode xnc_PA_keep 5 = .ok (.iload_n 1, 1) := by decide +kernel
theorem xnd_PA_keep_6 : decode xnc_PA_keep 6 = .ok (.iaload, 1) := by decide +kernel
theorem xnd_PA_keep_7 : decode xnc_PA_keep 7 = .ok (.putfield 68, 3) := by decide +kernel
theorem xnd_PA_keep_10 : decode xnc_PA_keep 10 = .ok (.iload_n 1, 1) := by decide +kernel
theorem xnd_PA_keep_11 : decode xnc_PA_keep 11 = .ok (.istore_n 2, 1) := by decide +kernel
theorem xnd_PA_keep_12 : decode xnc_PA_keep 12 = .ok (.aload_n 0, 1) := by decide +kernel
theorem xnd_PA_keep_13 : decode xnc_PA_keep 13 = .ok (.getfield 68, 3) := by decide +kernel
theorem xnd_PA_keep_16 : decode xnc_PA_keep 16 = .ok (.istore_n 3, 1) := by decide +kernel
theorem xnd_PA_keep_17 : decode xnc_PA_keep 17 = .ok (.iload_n 3, 1) := by decide +kernel
theorem xnd_PA_keep_18 : decode xnc_PA_keep 18 = .ok (.ifCond .le 23, 3) := by decide +kernel
theorem xnd_PA_keep_21 : decode xnc_PA_keep 21 = .ok (.aload_n 0, 1) := by decide +kernel
theorem xnd_PA_keep_22 : decode xnc_PA_keep 22 = .ok (.getfield 15, 3) := by decide +kernel
theorem xnd_PA_keep_25 : decode xnc_PA_keep 25 = .ok (.iload_n 3, 1) := by decide +kernel
theorem xnd_PA_keep_26 : decode xnc_PA_keep 26 = .ok (.iload_n 2, 1) := by decide +kernel
theorem xnd_PA_keep_27 : decode xnc_PA_keep 27 = .ok (.iastore, 1) := by decide +kernel
theorem xnd_PA_keep_28 : decode xnc_PA_keep 28 = .ok (.aload_n 0, 1) := by decide +kernel
theorem xnd_PA_keep_29 : decode xnc_PA_keep 29 = .ok (.getfield 27, 3) := by decide +kernel
theorem xnd_PA_keep_32 : decode xnc_PA_keep 32 = .ok (.iload_n 2, 1) := by decide +kernel
theorem xnd_PA_keep_33 : decode xnc_PA_keep 33 = .ok (.iaload, 1) := by decide +kernel
theorem xnd_PA_keep_34 : decode xnc_PA_keep 34 = .ok (.istore_n 2, 1) := by decide +kernel
theorem xnd_PA_keep_35 : decode xnc_PA_keep 35 = .ok (.iinc 3 (-1), 3) := by decide +kernel
theorem xnd_PA_keep_38 : decode xnc_PA_keep 38 = .ok (.goto (-21), 3) := by decide +kernel
theorem xnd_PA_keep_41 : decode xnc_PA_keep 41 = .ok (.aload_n 0, 1) := by decide +kernel
theorem xnd_PA_keep_42 : decode xnc_PA_keep 42 = .ok (.getfield 15, 3) := by decide +kernel
theorem xnd_PA_keep_45 : decode xnc_PA_keep 45 = .ok (.iconst 0, 1) := by decide +kernel
theorem xnd_PA_keep_46 : decode xnc_PA_keep 46 = .ok (.iload_n 2, 1) := by decide +kernel
theorem xnd_PA_keep_47 : decode xnc_PA_keep 47 = .ok (.iastore, 1) := by decide +kernel
theorem xnd_PA_keep_48 : decode xnc_PA_keep 48 = .ok (.return_, 1) := by decide +kernel
theorem xnd_WR_chooseMove_0 : decode xnc_WR_chooseMove 0 = .ok (.aload_n 0, 1) := by decide +kernel
theorem xnd_WR_chooseMove_1 : decode xnc_WR_chooseMove 1 = .ok (.dup, 1) := by decide +kernel
theorem xnd_WR_chooseMove_2 : decode xnc_WR_chooseMove 2 = .ok (.getfield 148, 3) := by decide +kernel
theorem xnd_WR_chooseMove_5 : decode xnc_WR_chooseMove 5 = .ok (.iconst 1, 1) := by decide +kernel
theorem xnd_WR_chooseMove_6 : decode xnc_WR_chooseMove 6 = .ok (.isub, 1) := by decide +kernel
theorem xnd_WR_chooseMove_7 : decode xnc_WR_chooseMove 7 = .ok (.putfield 148, 3) := by decide +kernel
theorem xnd_WR_chooseMove_10 : decode xnc_WR_chooseMove 10 = .ok (.aload_n 0, 1) := by decide +kernel
theorem xnd_WR_chooseMove_11 : decode xnc_WR_chooseMove 11 = .ok (.aload_n 0, 1) := by decide +kernel
theorem xnd_WR_chooseMove_12 : decode xnc_WR_chooseMove 12 = .ok (.getfield 148, 3) := by decide +kernel
theorem xnd_WR_chooseMove_15 : decode xnc_WR_chooseMove 15 = .ok (.ifCond .lt 7, 3) := by decide +kernel
theorem xnd_WR_chooseMove_18 : decode xnc_WR_chooseMove 18 = .ok (.iconst 5, 1) := by decide +kernel
theorem xnd_WR_chooseMove_19 : decode xnc_WR_chooseMove 19 = .ok (.goto 5, 3) := by decide +kernel
theorem xnd_WR_chooseMove_22 : decode xnc_WR_chooseMove 22 = .ok (.bipush 7, 2) := by decide +kernel
theorem xnd_WR_chooseMove_24 : decode xnc_WR_chooseMove 24 = .ok (.putfield 47, 3) := by decide +kernel
theorem xnd_WR_chooseMove_27 : decode xnc_WR_chooseMove 27 = .ok (.return_, 1) := by decide +kernel
theorem xnd_WR_moveOn_0 : decode xnc_WR_moveOn 0 = .ok (.aload_n 0, 1) := by decide +kernel
theorem xnd_WR_moveOn_1 : decode xnc_WR_moveOn 1 = .ok (.getfield 9, 3) := by decide +kernel
theorem xnd_WR_moveOn_4 : decode xnc_WR_moveOn 4 = .ok (.getfield 80, 3) := by decide +kernel
theorem xnd_WR_moveOn_7 : decode xnc_WR_moveOn 7 = .ok (.aload_n 0, 1) := by decide +kernel
theorem xnd_WR_moveOn_8 : decode xnc_WR_moveOn 8 = .ok (.getfield 24, 3) := by decide +kernel
theorem xnd_WR_moveOn_11 : decode xnc_WR_moveOn 11 = .ok (.getfield 154, 3) := by decide +kernel
theorem xnd_WR_moveOn_14 : decode xnc_WR_moveOn 14 = .ok (.aload_n 0, 1) := by decide +kernel
theorem xnd_WR_moveOn_15 : decode xnc_WR_moveOn 15 = .ok (.getfield 148, 3) := by decide +kernel
theorem xnd_WR_moveOn_18 : decode xnc_WR_moveOn 18 = .ok (.iaload, 1) := by decide +kernel
theorem xnd_WR_moveOn_19 : decode xnc_WR_moveOn 19 = .ok (.iaload, 1) := by decide +kernel
theorem xnd_WR_moveOn_20 : decode xnc_WR_moveOn 20 = .ok (.istore_n 1, 1) := by decide +kernel
theorem xnd_WR_moveOn_21 : decode xnc_WR_moveOn 21 = .ok (.aload_n 0, 1) := by decide +kernel
theorem xnd_WR_moveOn_22 : decode xnc_WR_moveOn 22 = .ok (.getfield 9, 3) := by decide +kernel
theorem xnd_WR_moveOn_25 : decode xnc_WR_moveOn 25 = .ok (.aload_n 0, 1) := by decide +kernel
theorem xnd_WR_moveOn_26 : decode xnc_WR_moveOn 26 = .ok (.getfield 9, 3) := by decide +kernel
theorem xnd_WR_moveOn_29 : decode xnc_WR_moveOn 29 = .ok (.getfield 157, 3) := by decide +kernel
theorem xnd_WR_moveOn_32 : decode xnc_WR_moveOn 32 = .ok (.iload_n 1, 1) := by decide +kernel
theorem xnd_WR_moveOn_33 : decode xnc_WR_moveOn 33 = .ok (.iaload, 1) := by decide +kernel
theorem xnd_WR_moveOn_34 : decode xnc_WR_moveOn 34 = .ok (.iconst 1, 1) := by decide +kernel
theorem xnd_WR_moveOn_35 : decode xnc_WR_moveOn 35 = .ok (.invokevirtual 116, 3) := by decide +kernel
theorem xnd_WR_moveOn_38 : decode xnc_WR_moveOn 38 = .ok (.aload_n 0, 1) := by decide +kernel
theorem xnd_WR_moveOn_39 : decode xnc_WR_moveOn 39 = .ok (.getfield 9, 3) := by decide +kernel
theorem xnd_WR_moveOn_42 : decode xnc_WR_moveOn 42 = .ok (.getfield 80, 3) := by decide +kernel
theorem xnd_WR_moveOn_45 : decode xnc_WR_moveOn 45 = .ok (.aload_n 0, 1) := by decide +kernel
theorem xnd_WR_moveOn_46 : decode xnc_WR_moveOn 46 = .ok (.getfield 24, 3) := by decide +kernel
theorem xnd_WR_moveOn_49 : decode xnc_WR_moveOn 49 = .ok (.getfield 154, 3) := by decide +kernel
theorem xnd_WR_moveOn_52 : decode xnc_WR_moveOn 52 = .ok (.aload_n 0, 1) := by decide +kernel
theorem xnd_WR_moveOn_53 : decode xnc_WR_moveOn 53 = .ok (.getfield 148, 3) := by decide +kernel
theorem xnd_WR_moveOn_56 : decode xnc_WR_moveOn 56 = .ok (.iconst 1, 1) := by decide +kernel
theorem xnd_WR_moveOn_57 : decode xnc_WR_moveOn 57 = .ok (.iadd, 1) := by decide +kernel
theorem xnd_WR_moveOn_58 : decode xnc_WR_moveOn 58 = .ok (.iaload, 1) := by decide +kernel
theorem xnd_WR_moveOn_59 : decode xnc_WR_moveOn 59 = .ok (.iload_n 1, 1) := by decide +kernel
theorem xnd_WR_moveOn_60 : decode xnc_WR_moveOn 60 = .ok (.iastore, 1) := by decide +kernel
theorem xnd_WR_moveOn_61 : decode xnc_WR_moveOn 61 = .ok (.aload_n 0, 1) := by decide +kernel
theorem xnd_WR_moveOn_62 : decode xnc_WR_moveOn 62 = .ok (.bipush 6, 2) := by decide +kernel
theorem xnd_WR_moveOn_64 : decode xnc_WR_moveOn 64 = .ok (.putfield 47, 3) := by decide +kernel
theorem xnd_WR_moveOn_67 : decode xnc_WR_moveOn 67 = .ok (.return_, 1) := by decide +kernel
theorem xnd_WR_moveOff_0 : decode xnc_WR_moveOff 0 = .ok (.aload_n 0, 1) := by decide +kernel
theorem xnd_WR_moveOff_1 : decode xnc_WR_moveOff 1 = .ok (.getfield 9, 3) := by decide +kernel
theorem xnd_WR_moveOff_4 : decode xnc_WR_moveOff 4 = .ok (.getfield 80, 3) := by decide +kernel
theorem xnd_WR_moveOff_7 : decode xnc_WR_moveOff 7 = .ok (.aload_n 0, 1) := by decide +kernel
theorem xnd_WR_moveOff_8 : decode xnc_WR_moveOff 8 = .ok (.getfield 24, 3) := by decide +kernel
theorem xnd_WR_moveOff_11 : decode xnc_WR_moveOff 11 = .ok (.getfield 154, 3) := by decide +kernel
theorem xnd_WR_moveOff_14 : decode xnc_WR_moveOff 14 = .ok (.aload_n 0, 1) := by decide +kernel
theorem xnd_WR_moveOff_15 : decode xnc_WR_moveOff 15 = .ok (.getfield 148, 3) := by decide +kernel
theorem xnd_WR_moveOff_18 : decode xnc_WR_moveOff 18 = .ok (.iaload, 1) := by decide +kernel
theorem xnd_WR_moveOff_19 : decode xnc_WR_moveOff 19 = .ok (.iaload, 1) := by decide +kernel
theorem xnd_WR_moveOff_20 : decode xnc_WR_moveOff 20 = .ok (.istore_n 1, 1) := by decide +kernel
theorem xnd_WR_moveOff_21 : decode xnc_WR_moveOff 21 = .ok (.aload_n 0, 1) := by decide +kernel
theorem xnd_WR_moveOff_22 : decode xnc_WR_moveOff 22 = .ok (.getfield 9, 3) := by decide +kernel
theorem xnd_WR_moveOff_25 : decode xnc_WR_moveOff 25 = .ok (.getfield 80, 3) := by decide +kernel
theorem xnd_WR_moveOff_28 : decode xnc_WR_moveOff 28 = .ok (.aload_n 0, 1) := by decide +kernel
theorem xnd_WR_moveOff_29 : decode xnc_WR_moveOff 29 = .ok (.getfield 24, 3) := by decide +kernel
theorem xnd_WR_moveOff_32 : decode xnc_WR_moveOff 32 = .ok (.getfield 154, 3) := by decide +kernel
theorem xnd_WR_moveOff_35 : decode xnc_WR_moveOff 35 = .ok (.aload_n 0, 1) := by decide +kernel
theorem xnd_WR_moveOff_36 : decode xnc_WR_moveOff 36 = .ok (.getfield 148, 3) := by decide +kernel
theorem xnd_WR_moveOff_39 : decode xnc_WR_moveOff 39 = .ok (.iaload, 1) := by decide +kernel
theorem xnd_WR_moveOff_40 : decode xnc_WR_moveOff 40 = .ok (.iconst (-1), 1) := by decide +kernel
theorem xnd_WR_moveOff_41 : decode xnc_WR_moveOff 41 = .ok (.iastore, 1) := by decide +kernel
theorem xnd_WR_moveOff_42 : decode xnc_WR_moveOff 42 = .ok (.aload_n 0, 1) := by decide +kernel
theorem xnd_WR_moveOff_43 : decode xnc_WR_moveOff 43 = .ok (.getfield 9, 3) := by decide +kernel
theorem xnd_WR_moveOff_46 : decode xnc_WR_moveOff 46 = .ok (.aload_n 0, 1) := by decide +kernel
theorem xnd_WR_moveOff_47 : decode xnc_WR_moveOff 47 = .ok (.getfield 9, 3) := by decide +kernel
theorem xnd_WR_moveOff_50 : decode xnc_WR_moveOff 50 = .ok (.getfield 157, 3) := by decide +kernel
theorem xnd_WR_moveOff_53 : decode xnc_WR_moveOff 53 = .ok (.iload_n 1, 1) := by decide +kernel
theorem xnd_WR_moveOff_54 : decode xnc_WR_moveOff 54 = .ok (.iaload, 1) := by decide +kernel
theorem xnd_WR_moveOff_55 : decode xnc_WR_moveOff 55 = .ok (.iconst 1, 1) := by decide +kernel
theorem xnd_WR_moveOff_56 : decode xnc_WR_moveOff 56 = .ok (.invokevirtual 116, 3) := by decide +kernel
theorem xnd_WR_moveOff_59 : decode xnc_WR_moveOff 59 = .ok (.aload_n 0, 1) := by decide +kernel
theorem xnd_WR_moveOff_60 : decode xnc_WR_moveOff 60 = .ok (.getfield 15, 3) := by decide +kernel
theorem xnd_WR_moveOff_63 : decode xnc_WR_moveOff 63 = .ok (.dup, 1) := by decide +kernel
theorem xnd_WR_moveOff_64 : decode xnc_WR_moveOff 64 = .ok (.getfield 160, 3) := by decide +kernel
theorem xnd_WR_moveOff_67 : decode xnc_WR_moveOff 67 = .ok (.iconst 1, 1) := by decide +kernel
theorem xnd_WR_moveOff_68 : decode xnc_WR_moveOff 68 = .ok (.iadd, 1) := by decide +kernel
theorem xnd_WR_moveOff_69 : decode xnc_WR_moveOff 69 = .ok (.putfield 160, 3) := by decide +kernel
theorem xnd_WR_moveOff_72 : decode xnc_WR_moveOff 72 = .ok (.aload_n 0, 1) := by decide +kernel
theorem xnd_WR_moveOff_73 : decode xnc_WR_moveOff 73 = .ok (.invokevirtual 151, 3) := by decide +kernel
theorem xnd_WR_moveOff_76 : decode xnc_WR_moveOff 76 = .ok (.return_, 1) := by decide +kernel
theorem xnd_WR_insertKey_0 : decode xnc_WR_insertKey 0 = .ok (.aload_n 0, 1) := by decide +kernel
theorem xnd_WR_insertKey_1 : decode xnc_WR_insertKey 1 = .ok (.getfield 9, 3) := by decide +kernel
theorem xnd_WR_insertKey_4 : decode xnc_WR_insertKey 4 = .ok (.aload_n 0, 1) := by decide +kernel
theorem xnd_WR_insertKey_5 : decode xnc_WR_insertKey 5 = .ok (.getfield 24, 3) := by decide +kernel
theorem xnd_WR_insertKey_8 : decode xnc_WR_insertKey 8 = .ok (.getfield 154, 3) := by decide +kernel
theorem xnd_WR_insertKey_11 : decode xnc_WR_insertKey 11 = .ok (.iconst 0, 1) := by decide +kernel
theorem xnd_WR_insertKey_12 : decode xnc_WR_insertKey 12 = .ok (.iaload, 1) := by decide +kernel
theorem xnd_WR_insertKey_13 : decode xnc_WR_insertKey 13 = .ok (.aload_n 0, 1) := by decide +kernel
theorem xnd_WR_insertKey_14 : decode xnc_WR_insertKey 14 = .ok (.getfield 35, 3) := by decide +kernel
theorem xnd_WR_insertKey_17 : decode xnc_WR_insertKey 17 = .ok (.aload_n 0, 1) := by decide +kernel
theorem xnd_WR_insertKey_18 : decode xnc_WR_insertKey 18 = .ok (.getfield 38, 3) := by decide +kernel
theorem xnd_WR_insertKey_21 : decode xnc_WR_insertKey 21 = .ok (.aload_n 0, 1) := by decide +kernel
theorem xnd_WR_insertKey_22 : decode xnc_WR_insertKey 22 = .ok (.getfield 41, 3) := by decide +kernel
theorem xnd_WR_insertKey_25 : decode xnc_WR_insertKey 25 = .ok (.invokevirtual 163, 3) := by decide +kernel
theorem xnd_WR_insertKey_28 : decode xnc_WR_insertKey 28 = .ok (.aload_n 0, 1) := by decide +kernel
theorem xnd_WR_insertKey_29 : decode xnc_WR_insertKey 29 = .ok (.iconst 1, 1) := by decide +kernel
theorem xnd_WR_insertKey_30 : decode xnc_WR_insertKey 30 = .ok (.putfield 28, 3) := by decide +kernel
theorem xnd_WR_insertKey_33 : decode xnc_WR_insertKey 33 = .ok (.return_, 1) := by decide +kernel
theorem xnd_ST_insert_0 : decode xnc_ST_insert 0 = .ok (.aload_n 0, 1) := by decide +kernel
theorem xnd_ST_insert_1 : decode xnc_ST_insert 1 = .ok (.invokevirtual 92, 3) := by decide +kernel
theorem xnd_ST_insert_4 : decode xnc_ST_insert 4 = .ok (.istore 5, 2) := by decide +kernel
theorem xnd_ST_insert_6 : decode xnc_ST_insert 6 = .ok (.aload_n 0, 1) := by decide +kernel
theorem xnd_ST_insert_7 : decode xnc_ST_insert 7 = .ok (.getfield 48, 3) := by decide +kernel
theorem xnd_ST_insert_10 : decode xnc_ST_insert 10 = .ok (.iload 5, 2) := by decide +kernel
theorem xnd_ST_insert_12 : decode xnc_ST_insert 12 = .ok (.iconst 1, 1) := by decide +kernel
theorem xnd_ST_insert_13 : decode xnc_ST_insert 13 = .ok (.bastore, 1) := by decide +kernel
theorem xnd_ST_insert_14 : decode xnc_ST_insert 14 = .ok (.aload_n 0, 1) := by decide +kernel
theorem xnd_ST_insert_15 : decode xnc_ST_insert 15 = .ok (.dup, 1) := by decide +kernel
theorem xnd_ST_insert_16 : decode xnc_ST_insert 16 = .ok (.getfield 54, 3) := by decide +kernel
theorem xnd_ST_insert_19 : decode xnc_ST_insert 19 = .ok (.iconst 1, 1) := by decide +kernel
theorem xnd_ST_insert_20 : decode xnc_ST_insert 20 = .ok (.iadd, 1) := by decide +kernel
theorem xnd_ST_insert_21 : decode xnc_ST_insert 21 = .ok (.putfield 54, 3) := by decide +kernel
theorem xnd_ST_insert_24 : decode xnc_ST_insert 24 = .ok (.aload_n 0, 1) := by decide +kernel
theorem xnd_ST_insert_25 : decode xnc_ST_insert 25 = .ok (.getfield 32, 3) := by decide +kernel
theorem xnd_ST_insert_28 : decode xnc_ST_insert 28 = .ok (.iload 5, 2) := by decide +kernel
theorem xnd_ST_insert_30 : decode xnc_ST_insert 30 = .ok (.iload_n 2, 1) := by decide +kernel
theorem xnd_ST_insert_31 : decode xnc_ST_insert 31 = .ok (.iastore, 1) := by decide +kernel
theorem xnd_ST_insert_32 : decode xnc_ST_insert 32 = .ok (.aload_n 0, 1) := by decide +kernel
theorem xnd_ST_insert_33 : decode xnc_ST_insert 33 = .ok (.getfield 35, 3) := by decide +kernel
theorem xnd_ST_insert_36 : decode xnc_ST_insert 36 = .ok (.iload 5, 2) := by decide +kernel
theorem xnd_ST_insert_38 : decode xnc_ST_insert 38 = .ok (.iload_n 3, 1) := by decide +kernel
theorem xnd_ST_insert_39 : decode xnc_ST_insert 39 = .ok (.iastore, 1) := by decide +kernel
theorem xnd_ST_insert_40 : decode xnc_ST_insert 40 = .ok (.aload_n 0, 1) := by decide +kernel
theorem xnd_ST_insert_41 : decode xnc_ST_insert 41 = .ok (.iload 5, 2) := by decide +kernel
theorem xnd_ST_insert_43 : decode xnc_ST_insert 43 = .ok (.iload 4, 2) := by decide +kernel
theorem xnd_ST_insert_45 : decode xnc_ST_insert 45 = .ok (.invokevirtual 96, 3) := by decide +kernel
theorem xnd_ST_insert_48 : decode xnc_ST_insert 48 = .ok (.aload_n 0, 1) := by decide +kernel
theorem xnd_ST_insert_49 : decode xnc_ST_insert 49 = .ok (.getfield 44, 3) := by decide +kernel
theorem xnd_ST_insert_52 : decode xnc_ST_insert 52 = .ok (.iload 5, 2) := by decide +kernel
theorem xnd_ST_insert_54 : decode xnc_ST_insert 54 = .ok (.iconst 0, 1) := by decide +kernel
theorem xnd_ST_insert_55 : decode xnc_ST_insert 55 = .ok (.bastore, 1) := by decide +kernel
theorem xnd_ST_insert_56 : decode xnc_ST_insert 56 = .ok (.aload_n 0, 1) := by decide +kernel
theorem xnd_ST_insert_57 : decode xnc_ST_insert 57 = .ok (.getfield 22, 3) := by decide +kernel
theorem xnd_ST_insert_60 : decode xnc_ST_insert 60 = .ok (.iload_n 1, 1) := by decide +kernel
theorem xnd_ST_insert_61 : decode xnc_ST_insert 61 = .ok (.iload 5, 2) := by decide +kernel
theorem xnd_ST_insert_63 : decode xnc_ST_insert 63 = .ok (.iastore, 1) := by decide +kernel
theorem xnd_ST_insert_64 : decode xnc_ST_insert 64 = .ok (.return_, 1) := by decide +kernel
theorem xnd_ST_lowestFree_0 : decode xnc_ST_lowestFree 0 = .ok (.iconst 0, 1) := by decide +kernel
theorem xnd_ST_lowestFree_1 : decode xnc_ST_lowestFree 1 = .ok (.istore_n 1, 1) := by decide +kernel
theorem xnd_ST_lowestFree_2 : decode xnc_ST_lowestFree 2 = .ok (.iload_n 1, 1) := by decide +kernel
theorem xnd_ST_lowestFree_3 : decode xnc_ST_lowestFree 3 = .ok (.aload_n 0, 1) := by decide +kernel
theorem xnd_ST_lowestFree_4 : decode xnc_ST_lowestFree 4 = .ok (.getfield 15, 3) := by decide +kernel
theorem xnd_ST_lowestFree_7 : decode xnc_ST_lowestFree 7 = .ok (.iconst 1, 1) := by decide +kernel
theorem xnd_ST_lowestFree_8 : decode xnc_ST_lowestFree 8 = .ok (.isub, 1) := by decide +kernel
theorem xnd_ST_lowestFree_9 : decode xnc_ST_lowestFree 9 = .ok (.if_icmp .ge 18, 3) := by decide +kernel
theorem xnd_ST_lowestFree_12 : decode xnc_ST_lowestFree 12 = .ok (.aload_n 0, 1) := by decide +kernel
theorem xnd_ST_lowestFree_13 : decode xnc_ST_lowestFree 13 = .ok (.getfield 48, 3) := by decide +kernel
theorem xnd_ST_lowestFree_16 : decode xnc_ST_lowestFree 16 = .ok (.iload_n 1, 1) := by decide +kernel
theorem xnd_ST_lowestFree_17 : decode xnc_ST_lowestFree 17 = .ok (.baload, 1) := by decide +kernel
theorem xnd_ST_lowestFree_18 : decode xnc_ST_lowestFree 18 = .ok (.ifCond .eq 9, 3) := by decide +kernel
theorem xnd_ST_lowestFree_21 : decode xnc_ST_lowestFree 21 = .ok (.iinc 1 1, 3) := by decide +kernel
theorem xnd_ST_lowestFree_24 : decode xnc_ST_lowestFree 24 = .ok (.goto (-22), 3) := by decide +kernel
theorem xnd_ST_lowestFree_27 : decode xnc_ST_lowestFree 27 = .ok (.iload_n 1, 1) := by decide +kernel
theorem xnd_ST_lowestFree_28 : decode xnc_ST_lowestFree 28 = .ok (.ireturn, 1) := by decide +kernel
theorem xnd_SC_outcome_0 : decode xnc_SC_outcome 0 = .ok (.aload_n 0, 1) := by decide +kernel
theorem xnd_SC_outcome_1 : decode xnc_SC_outcome 1 = .ok (.getfield 34, 3) := by decide +kernel
theorem xnd_SC_outcome_4 : decode xnc_SC_outcome 4 = .ok (.getfield 58, 3) := by decide +kernel
theorem xnd_SC_outcome_7 : decode xnc_SC_outcome 7 = .ok (.ireturn, 1) := by decide +kernel
theorem xnd_SC_get_0 : decode xnc_SC_get 0 = .ok (.iload_n 1, 1) := by decide +kernel
theorem xnd_SC_get_1 : decode xnc_SC_get 1 = .ok (.invokestatic 62, 3) := by decide +kernel
theorem xnd_SC_get_4 : decode xnc_SC_get 4 = .ok (.ifCond .eq 15, 3) := by decide +kernel
theorem xnd_SC_get_7 : decode xnc_SC_get 7 = .ok (.aload_n 0, 1) := by decide +kernel
theorem xnd_SC_get_8 : decode xnc_SC_get 8 = .ok (.getfield 40, 3) := by decide +kernel
theorem xnd_SC_get_11 : decode xnc_SC_get 11 = .ok (.iload_n 1, 1) := by decide +kernel
theorem xnd_SC_get_12 : decode xnc_SC_get 12 = .ok (.aaload, 1) := by decide +kernel
theorem xnd_SC_get_13 : decode xnc_SC_get 13 = .ok (.invokevirtual 66, 3) := by decide +kernel
theorem xnd_SC_get_16 : decode xnc_SC_get 16 = .ok (.ifCond .eq 5, 3) := by decide +kernel
theorem xnd_SC_get_19 : decode xnc_SC_get 19 = .ok (.iconst 0, 1) := by decide +kernel
theorem xnd_SC_get_20 : decode xnc_SC_get 20 = .ok (.ireturn, 1) := by decide +kernel
theorem xnd_SC_get_21 : decode xnc_SC_get 21 = .ok (.aload_n 0, 1) := by decide +kernel
theorem xnd_SC_get_22 : decode xnc_SC_get 22 = .ok (.getfield 40, 3) := by decide +kernel
theorem xnd_SC_get_25 : decode xnc_SC_get 25 = .ok (.iload_n 1, 1) := by decide +kernel
theorem xnd_SC_get_26 : decode xnc_SC_get 26 = .ok (.aaload, 1) := by decide +kernel
theorem xnd_SC_get_27 : decode xnc_SC_get 27 = .ok (.iload_n 2, 1) := by decide +kernel
theorem xnd_SC_get_28 : decode xnc_SC_get 28 = .ok (.invokevirtual 67, 3) := by decide +kernel
theorem xnd_SC_get_31 : decode xnc_SC_get 31 = .ok (.iconst 1, 1) := by decide +kernel
theorem xnd_SC_get_32 : decode xnc_SC_get 32 = .ok (.ireturn, 1) := by decide +kernel
theorem xnd_SC_isReader_0 : decode xnc_SC_isReader 0 = .ok (.iload_n 0, 1) := by decide +kernel
theorem xnd_SC_isReader_1 : decode xnc_SC_isReader 1 = .ok (.iconst 0, 1) := by decide +kernel
theorem xnd_SC_isReader_2 : decode xnc_SC_isReader 2 = .ok (.iconst 2, 1) := by decide +kernel
theorem xnd_SC_isReader_3 : decode xnc_SC_isReader 3 = .ok (.invokestatic 18, 3) := by decide +kernel
theorem xnd_SC_isReader_6 : decode xnc_SC_isReader 6 = .ok (.ireturn, 1) := by decide +kernel
theorem xnd_RD_isUnderWay_0 : decode xnc_RD_isUnderWay 0 = .ok (.aload_n 0, 1) := by decide +kernel
theorem xnd_RD_isUnderWay_1 : decode xnc_RD_isUnderWay 1 = .ok (.getfield 23, 3) := by decide +kernel
theorem xnd_RD_isUnderWay_4 : decode xnc_RD_isUnderWay 4 = .ok (.iconst 1, 1) := by decide +kernel
theorem xnd_RD_isUnderWay_5 : decode xnc_RD_isUnderWay 5 = .ok (.bipush 6, 2) := by decide +kernel
theorem xnd_RD_isUnderWay_7 : decode xnc_RD_isUnderWay 7 = .ok (.invokestatic 27, 3) := by decide +kernel
theorem xnd_RD_isUnderWay_10 : decode xnc_RD_isUnderWay 10 = .ok (.ireturn, 1) := by decide +kernel
theorem xnd_RD_begin_0 : decode xnc_RD_begin 0 = .ok (.aload_n 0, 1) := by decide +kernel
theorem xnd_RD_begin_1 : decode xnc_RD_begin 1 = .ok (.iload_n 1, 1) := by decide +kernel
theorem xnd_RD_begin_2 : decode xnc_RD_begin 2 = .ok (.putfield 31, 3) := by decide +kernel
theorem xnd_RD_begin_5 : decode xnc_RD_begin 5 = .ok (.aload_n 0, 1) := by decide +kernel
theorem xnd_RD_begin_6 : decode xnc_RD_begin 6 = .ok (.iconst 0, 1) := by decide +kernel
theorem xnd_RD_begin_7 : decode xnc_RD_begin 7 = .ok (.putfield 34, 3) := by decide +kernel
theorem xnd_RD_begin_10 : decode xnc_RD_begin 10 = .ok (.aload_n 0, 1) := by decide +kernel
theorem xnd_RD_begin_11 : decode xnc_RD_begin 11 = .ok (.iconst 1, 1) := by decide +kernel
theorem xnd_RD_begin_12 : decode xnc_RD_begin 12 = .ok (.putfield 23, 3) := by decide +kernel
theorem xnd_RD_begin_15 : decode xnc_RD_begin 15 = .ok (.return_, 1) := by decide +kernel
theorem xnd_SC_step_0 : decode xnc_SC_step 0 = .ok (.iload_n 1, 1) := by decide +kernel
theorem xnd_SC_step_1 : decode xnc_SC_step 1 = .ok (.invokestatic 62, 3) := by decide +kernel
theorem xnd_SC_step_4 : decode xnc_SC_step 4 = .ok (.ifCond .eq 15, 3) := by decide +kernel
theorem xnd_SC_step_7 : decode xnc_SC_step 7 = .ok (.aload_n 0, 1) := by decide +kernel
theorem xnd_SC_step_8 : decode xnc_SC_step 8 = .ok (.getfield 40, 3) := by decide +kernel
theorem xnd_SC_step_11 : decode xnc_SC_step 11 = .ok (.iload_n 1, 1) := by decide +kernel
theorem xnd_SC_step_12 : decode xnc_SC_step 12 = .ok (.aaload, 1) := by decide +kernel
theorem xnd_SC_step_13 : decode xnc_SC_step 13 = .ok (.invokevirtual 66, 3) := by decide +kernel
theorem xnd_SC_step_16 : decode xnc_SC_step 16 = .ok (.ifCond .ne 5, 3) := by decide +kernel
theorem xnd_SC_step_19 : decode xnc_SC_step 19 = .ok (.iconst (-1), 1) := by decide +kernel
theorem xnd_SC_step_20 : decode xnc_SC_step 20 = .ok (.ireturn, 1) := by decide +kernel
theorem xnd_SC_step_21 : decode xnc_SC_step 21 = .ok (.aload_n 0, 1) := by decide +kernel
theorem xnd_SC_step_22 : decode xnc_SC_step 22 = .ok (.getfield 40, 3) := by decide +kernel
theorem xnd_SC_step_25 : decode xnc_SC_step 25 = .ok (.iload_n 1, 1) := by decide +kernel
theorem xnd_SC_step_26 : decode xnc_SC_step 26 = .ok (.aaload, 1) := by decide +kernel
theorem xnd_SC_step_27 : decode xnc_SC_step 27 = .ok (.invokevirtual 70, 3) := by decide +kernel
theorem xnd_SC_step_30 : decode xnc_SC_step 30 = .ok (.aload_n 0, 1) := by decide +kernel
theorem xnd_SC_step_31 : decode xnc_SC_step 31 = .ok (.getfield 40, 3) := by decide +kernel
theorem xnd_SC_step_34 : decode xnc_SC_step 34 = .ok (.iload_n 1, 1) := by decide +kernel
theorem xnd_SC_step_35 : decode xnc_SC_step 35 = .ok (.aaload, 1) := by decide +kernel
theorem xnd_SC_step_36 : decode xnc_SC_step 36 = .ok (.getfield 71, 3) := by decide +kernel
theorem xnd_SC_step_39 : decode xnc_SC_step 39 = .ok (.ireturn, 1) := by decide +kernel
theorem xnd_RD_goOn_0 : decode xnc_RD_goOn 0 = .ok (.aload_n 0, 1) := by decide +kernel
theorem xnd_RD_goOn_1 : decode xnc_RD_goOn 1 = .ok (.getfield 23, 3) := by decide +kernel
theorem xnd_RD_goOn_4 : decode xnc_RD_goOn 4 = .ok (.tableswitch 92 1 5 #[36, 43, 58, 73, 85], 36) := by decide +kernel
theorem xnd_RD_goOn_40 : decode xnc_RD_goOn 40 = .ok (.aload_n 0, 1) := by decide +kernel
theorem xnd_RD_goOn_41 : decode xnc_RD_goOn 41 = .ok (.invokevirtual 37, 3) := by decide +kernel
theorem xnd_RD_goOn_44 : decode xnc_RD_goOn 44 = .ok (.goto 56, 3) := by decide +kernel
theorem xnd_RD_goOn_47 : decode xnc_RD_goOn 47 = .ok (.aload_n 0, 1) := by decide +kernel
theorem xnd_RD_goOn_48 : decode xnc_RD_goOn 48 = .ok (.aload_n 0, 1) := by decide +kernel
theorem xnd_RD_goOn_49 : decode xnc_RD_goOn 49 = .ok (.getfield 31, 3) := by decide +kernel
theorem xnd_RD_goOn_52 : decode xnc_RD_goOn 52 = .ok (.invokestatic 40, 3) := by decide +kernel
theorem xnd_RD_goOn_55 : decode xnc_RD_goOn 55 = .ok (.iconst 3, 1) := by decide +kernel
theorem xnd_RD_goOn_56 : decode xnc_RD_goOn 56 = .ok (.invokevirtual 44, 3) := by decide +kernel
theorem xnd_RD_goOn_59 : decode xnc_RD_goOn 59 = .ok (.goto 41, 3) := by decide +kernel
theorem xnd_RD_goOn_62 : decode xnc_RD_goOn 62 = .ok (.aload_n 0, 1) := by decide +kernel
theorem xnd_RD_goOn_63 : decode xnc_RD_goOn 63 = .ok (.aload_n 0, 1) := by decide +kernel
theorem xnd_RD_goOn_64 : decode xnc_RD_goOn 64 = .ok (.getfield 31, 3) := by decide +kernel
theorem xnd_RD_goOn_67 : decode xnc_RD_goOn 67 = .ok (.invokestatic 48, 3) := by decide +kernel
theorem xnd_RD_goOn_70 : decode xnc_RD_goOn 70 = .ok (.iconst 5, 1) := by decide +kernel
theorem xnd_RD_goOn_71 : decode xnc_RD_goOn 71 = .ok (.invokevirtual 44, 3) := by decide +kernel
theorem xnd_RD_goOn_74 : decode xnc_RD_goOn 74 = .ok (.goto 26, 3) := by decide +kernel
theorem xnd_RD_goOn_77 : decode xnc_RD_goOn 77 = .ok (.aload_n 0, 1) := by decide +kernel
theorem xnd_RD_goOn_78 : decode xnc_RD_goOn 78 = .ok (.invokevirtual 51, 3) := by decide +kernel
theorem xnd_RD_goOn_81 : decode xnc_RD_goOn 81 = .ok (.aload_n 0, 1) := by decide +kernel
theorem xnd_RD_goOn_82 : decode xnc_RD_goOn 82 = .ok (.iconst 5, 1) := by decide +kernel
theorem xnd_RD_goOn_83 : decode xnc_RD_goOn 83 = .ok (.putfield 23, 3) := by decide +kernel
theorem xnd_RD_goOn_86 : decode xnc_RD_goOn 86 = .ok (.goto 14, 3) := by decide +kernel
theorem xnd_RD_goOn_89 : decode xnc_RD_goOn 89 = .ok (.aload_n 0, 1) := by decide +kernel
theorem xnd_RD_goOn_90 : decode xnc_RD_goOn 90 = .ok (.invokevirtual 54, 3) := by decide +kernel
theorem xnd_RD_goOn_93 : decode xnc_RD_goOn 93 = .ok (.goto 7, 3) := by decide +kernel
theorem xnd_RD_goOn_96 : decode xnc_RD_goOn 96 = .ok (.aload_n 0, 1) := by decide +kernel
theorem xnd_RD_goOn_97 : decode xnc_RD_goOn 97 = .ok (.invokevirtual 57, 3) := by decide +kernel
theorem xnd_RD_goOn_100 : decode xnc_RD_goOn 100 = .ok (.return_, 1) := by decide +kernel
theorem xnd_RD_keepVersion_0 : decode xnc_RD_keepVersion 0 = .ok (.aload_n 0, 1) := by decide +kernel
theorem xnd_RD_keepVersion_1 : decode xnc_RD_keepVersion 1 = .ok (.aload_n 0, 1) := by decide +kernel
theorem xnd_RD_keepVersion_2 : decode xnc_RD_keepVersion 2 = .ok (.getfield 9, 3) := by decide +kernel
theorem xnd_RD_keepVersion_5 : decode xnc_RD_keepVersion 5 = .ok (.aload_n 0, 1) := by decide +kernel
theorem xnd_RD_keepVersion_6 : decode xnc_RD_keepVersion 6 = .ok (.getfield 31, 3) := by decide +kernel
theorem xnd_RD_keepVersion_9 : decode xnc_RD_keepVersion 9 = .ok (.invokevirtual 60, 3) := by decide +kernel
theorem xnd_RD_keepVersion_12 : decode xnc_RD_keepVersion 12 = .ok (.putfield 65, 3) := by decide +kernel
theorem xnd_RD_keepVersion_15 : decode xnc_RD_keepVersion 15 = .ok (.aload_n 0, 1) := by decide +kernel
theorem xnd_RD_keepVersion_16 : decode xnc_RD_keepVersion 16 = .ok (.getfield 65, 3) := by decide +kernel
theorem xnd_RD_keepVersion_19 : decode xnc_RD_keepVersion 19 = .ok (.iconst 1, 1) := by decide +kernel
theorem xnd_RD_keepVersion_20 : decode xnc_RD_keepVersion 20 = .ok (.iand, 1) := by decide +kernel
theorem xnd_RD_keepVersion_21 : decode xnc_RD_keepVersion 21 = .ok (.ifCond .eq 19, 3) := by decide +kernel
theorem xnd_RD_keepVersion_24 : decode xnc_RD_keepVersion 24 = .ok (.aload_n 0, 1) := by decide +kernel
theorem xnd_RD_keepVersion_25 : decode xnc_RD_keepVersion 25 = .ok (.getfield 19, 3) := by decide +kernel
theorem xnd_RD_keepVersion_28 : decode xnc_RD_keepVersion 28 = .ok (.dup, 1) := by decide +kernel
theorem xnd_RD_keepVersion_29 : decode xnc_RD_keepVersion 29 = .ok (.getfield 68, 3) := by decide +kernel
theorem xnd_RD_keepVersion_32 : decode xnc_RD_keepVersion 32 = .ok (.iconst 1, 1) := by decide +kernel
theorem xnd_RD_keepVersion_33 : decode xnc_RD_keepVersion 33 = .ok (.iadd, 1) := by decide +kernel
theorem xnd_RD_keepVersion_34 : decode xnc_RD_keepVersion 34 = .ok (.putfield 68, 3) := by decide +kernel
theorem xnd_RD_keepVersion_37 : decode xnc_RD_keepVersion 37 = .ok (.goto 8, 3) := by decide +kernel
theorem xnd_RD_keepVersion_40 : decode xnc_RD_keepVersion 40 = .ok (.aload_n 0, 1) := by decide +kernel
theorem xnd_RD_keepVersion_41 : decode xnc_RD_keepVersion 41 = .ok (.iconst 2, 1) := by decide +kernel
theorem xnd_RD_keepVersion_42 : decode xnc_RD_keepVersion 42 = .ok (.putfield 23, 3) := by decide +kernel
theorem xnd_RD_keepVersion_45 : decode xnc_RD_keepVersion 45 = .ok (.return_, 1) := by decide +kernel
theorem xnd_ST_versionFor_0 : decode xnc_ST_versionFor 0 = .ok (.aload_n 0, 1) := by decide +kernel
theorem xnd_ST_versionFor_1 : decode xnc_ST_versionFor 1 = .ok (.getfield 51, 3) := by decide +kernel
theorem xnd_ST_versionFor_4 : decode xnc_ST_versionFor 4 = .ok (.iload_n 1, 1) := by decide +kernel
theorem xnd_ST_versionFor_5 : decode xnc_ST_versionFor 5 = .ok (.invokestatic 82, 3) := by decide +kernel
theorem xnd_ST_versionFor_8 : decode xnc_ST_versionFor 8 = .ok (.iaload, 1) := by decide +kernel
theorem xnd_ST_versionFor_9 : decode xnc_ST_versionFor 9 = .ok (.ireturn, 1) := by decide +kernel
theorem xnd_RD_lookInto_0 : decode xnc_RD_lookInto 0 = .ok (.aload_n 0, 1) := by decide +kernel
theorem xnd_RD_lookInto_1 : decode xnc_RD_lookInto 1 = .ok (.getfield 9, 3) := by decide +kernel
theorem xnd_RD_lookInto_4 : decode xnc_RD_lookInto 4 = .ok (.iload_n 1, 1) := by decide +kernel
theorem xnd_RD_lookInto_5 : decode xnc_RD_lookInto 5 = .ok (.aload_n 0, 1) := by decide +kernel
theorem xnd_RD_lookInto_6 : decode xnc_RD_lookInto 6 = .ok (.getfield 31, 3) := by decide +kernel
theorem xnd_RD_lookInto_9 : decode xnc_RD_lookInto 9 = .ok (.invokevirtual 73, 3) := by decide +kernel
theorem xnd_RD_lookInto_12 : decode xnc_RD_lookInto 12 = .ok (.istore_n 3, 1) := by decide +kernel
theorem xnd_RD_lookInto_13 : decode xnc_RD_lookInto 13 = .ok (.aload_n 0, 1) := by decide +kernel
theorem xnd_RD_lookInto_14 : decode xnc_RD_lookInto 14 = .ok (.iload_n 3, 1) := by decide +kernel
theorem xnd_RD_lookInto_15 : decode xnc_RD_lookInto 15 = .ok (.iconst (-1), 1) := by decide +kernel
theorem xnd_RD_lookInto_16 : decode xnc_RD_lookInto 16 = .ok (.if_icmp .eq 15, 3) := by decide +kernel
theorem xnd_RD_lookInto_19 : decode xnc_RD_lookInto 19 = .ok (.aload_n 0, 1) := by decide +kernel
theorem xnd_RD_lookInto_20 : decode xnc_RD_lookInto 20 = .ok (.getfield 9, 3) := by decide +kernel
theorem xnd_RD_lookInto_23 : decode xnc_RD_lookInto 23 = .ok (.getfield 77, 3) := by decide +kernel
theorem xnd_RD_lookInto_26 : decode xnc_RD_lookInto 26 = .ok (.iload_n 3, 1) := by decide +kernel
theorem xnd_RD_lookInto_27 : decode xnc_RD_lookInto 27 = .ok (.iaload, 1) := by decide +kernel
theorem xnd_RD_lookInto_28 : decode xnc_RD_lookInto 28 = .ok (.goto 4, 3) := by decide +kernel
theorem xnd_RD_lookInto_31 : decode xnc_RD_lookInto 31 = .ok (.iconst (-1), 1) := by decide +kernel
theorem xnd_RD_lookInto_32 : decode xnc_RD_lookInto 32 = .ok (.putfield 81, 3) := by decide +kernel
theorem xnd_RD_lookInto_35 : decode xnc_RD_lookInto 35 = .ok (.aload_n 0, 1) := by decide +kernel
theorem xnd_RD_lookInto_36 : decode xnc_RD_lookInto 36 = .ok (.iload_n 3, 1) := by decide +kernel
theorem xnd_RD_lookInto_37 : decode xnc_RD_lookInto 37 = .ok (.iconst (-1), 1) := by decide +kernel
theorem xnd_RD_lookInto_38 : decode xnc_RD_lookInto 38 = .ok (.if_icmp .eq 7, 3) := by decide +kernel
theorem xnd_RD_lookInto_41 : decode xnc_RD_lookInto 41 = .ok (.iconst 4, 1) := by decide +kernel
theorem xnd_RD_lookInto_42 : decode xnc_RD_lookInto 42 = .ok (.goto 4, 3) := by decide +kernel
theorem xnd_RD_lookInto_45 : decode xnc_RD_lookInto 45 = .ok (.iload_n 2, 1) := by decide +kernel
theorem xnd_RD_lookInto_46 : decode xnc_RD_lookInto 46 = .ok (.putfield 23, 3) := by decide +kernel
theorem xnd_RD_lookInto_49 : decode xnc_RD_lookInto 49 = .ok (.return_, 1) := by decide +kernel
theorem xnd_RD_copyItem_0 : decode xnc_RD_copyItem 0 = .ok (.aload_n 0, 1) := by decide +kernel
theorem xnd_RD_copyItem_1 : decode xnc_RD_copyItem 1 = .ok (.aload_n 0, 1) := by decide +kernel
theorem xnd_RD_copyItem_2 : decode xnc_RD_copyItem 2 = .ok (.getfield 9, 3) := by decide +kernel
theorem xnd_RD_copyItem_5 : decode xnc_RD_copyItem 5 = .ok (.getfield 84, 3) := by decide +kernel
theorem xnd_RD_copyItem_8 : decode xnc_RD_copyItem 8 = .ok (.aload_n 0, 1) := by decide +kernel
theorem xnd_RD_copyItem_9 : decode xnc_RD_copyItem 9 = .ok (.getfield 81, 3) := by decide +kernel
theorem xnd_RD_copyItem_12 : decode xnc_RD_copyItem 12 = .ok (.iaload, 1) := by decide +kernel
theorem xnd_RD_copyItem_13 : decode xnc_RD_copyItem 13 = .ok (.putfield 87, 3) := by decide +kernel
theorem xnd_RD_copyItem_16 : decode xnc_RD_copyItem 16 = .ok (.aload_n 0, 1) := by decide +kernel
theorem xnd_RD_copyItem_17 : decode xnc_RD_copyItem 17 = .ok (.aload_n 0, 1) := by decide +kernel
theorem xnd_RD_copyItem_18 : decode xnc_RD_copyItem 18 = .ok (.getfield 9, 3) := by decide +kernel
theorem xnd_RD_copyItem_21 : decode xnc_RD_copyItem 21 = .ok (.getfield 90, 3) := by decide +kernel
theorem xnd_RD_copyItem_24 : decode xnc_RD_copyItem 24 = .ok (.aload_n 0, 1) := by decide +kernel
theorem xnd_RD_copyItem_25 : decode xnc_RD_copyItem 25 = .ok (.getfield 81, 3) := by decide +kernel
theorem xnd_RD_copyItem_28 : decode xnc_RD_copyItem 28 = .ok (.iaload, 1) := by decide +kernel
theorem xnd_RD_copyItem_29 : decode xnc_RD_copyItem 29 = .ok (.putfield 93, 3) := by decide +kernel
theorem xnd_RD_copyItem_32 : decode xnc_RD_copyItem 32 = .ok (.aload_n 0, 1) := by decide +kernel
theorem xnd_RD_copyItem_33 : decode xnc_RD_copyItem 33 = .ok (.aload_n 0, 1) := by decide +kernel
theorem xnd_RD_copyItem_34 : decode xnc_RD_copyItem 34 = .ok (.getfield 9, 3) := by decide +kernel
theorem xnd_RD_copyItem_37 : decode xnc_RD_copyItem 37 = .ok (.getfield 96, 3) := by decide +kernel
theorem xnd_RD_copyItem_40 : decode xnc_RD_copyItem 40 = .ok (.aload_n 0, 1) := by decide +kernel
theorem xnd_RD_copyItem_41 : decode xnc_RD_copyItem 41 = .ok (.getfield 81, 3) := by decide +kernel
theorem xnd_RD_copyItem_44 : decode xnc_RD_copyItem 44 = .ok (.iaload, 1) := by decide +kernel
theorem xnd_RD_copyItem_45 : decode xnc_RD_copyItem 45 = .ok (.putfield 99, 3) := by decide +kernel
theorem xnd_RD_copyItem_48 : decode xnc_RD_copyItem 48 = .ok (.return_, 1) := by decide +kernel
theorem xnd_RD_checkVersion_0 : decode xnc_RD_checkVersion 0 = .ok (.aload_n 0, 1) := by decide +kernel
theorem xnd_RD_checkVersion_1 : decode xnc_RD_checkVersion 1 = .ok (.getfield 9, 3) := by decide +kernel
theorem xnd_RD_checkVersion_4 : decode xnc_RD_checkVersion 4 = .ok (.aload_n 0, 1) := by decide +kernel
theorem xnd_RD_checkVersion_5 : decode xnc_RD_checkVersion 5 = .ok (.getfield 31, 3) := by decide +kernel
theorem xnd_RD_checkVersion_8 : decode xnc_RD_checkVersion 8 = .ok (.invokevirtual 60, 3) := by decide +kernel
theorem xnd_RD_checkVersion_11 : decode xnc_RD_checkVersion 11 = .ok (.aload_n 0, 1) := by decide +kernel
theorem xnd_RD_checkVersion_12 : decode xnc_RD_checkVersion 12 = .ok (.getfield 65, 3) := by decide +kernel
theorem xnd_RD_checkVersion_15 : decode xnc_RD_checkVersion 15 = .ok (.if_icmp .eq 47, 3) := by decide +kernel
theorem xnd_RD_checkVersion_18 : decode xnc_RD_checkVersion 18 = .ok (.aload_n 0, 1) := by decide +kernel
theorem xnd_RD_checkVersion_19 : decode xnc_RD_checkVersion 19 = .ok (.dup, 1) := by decide +kernel
theorem xnd_RD_checkVersion_20 : decode xnc_RD_checkVersion 20 = .ok (.getfield 34, 3) := by decide +kernel
theorem xnd_RD_checkVersion_23 : decode xnc_RD_checkVersion 23 = .ok (.iconst 1, 1) := by decide +kernel
theorem xnd_RD_checkVersion_24 : decode xnc_RD_checkVersion 24 = .ok (.iadd, 1) := by decide +kernel
theorem xnd_RD_checkVersion_25 : decode xnc_RD_checkVersion 25 = .ok (.putfield 34, 3) := by decide +kernel
theorem xnd_RD_checkVersion_28 : decode xnc_RD_checkVersion 28 = .ok (.aload_n 0, 1) := by decide +kernel
theorem xnd_RD_checkVersion_29 : decode xnc_RD_checkVersion 29 = .ok (.getfield 19, 3) := by decide +kernel
theorem xnd_RD_checkVersion_32 : decode xnc_RD_checkVersion 32 = .ok (.dup, 1) := by decide +kernel
theorem xnd_RD_checkVersion_33 : decode xnc_RD_checkVersion 33 = .ok (.getfield 102, 3) := by decide +kernel
theorem xnd_RD_checkVersion_36 : decode xnc_RD_checkVersion 36 = .ok (.iconst 1, 1) := by decide +kernel
theorem xnd_RD_checkVersion_37 : decode xnc_RD_checkVersion 37 = .ok (.iadd, 1) := by decide +kernel
theorem xnd_RD_checkVersion_38 : decode xnc_RD_checkVersion 38 = .ok (.putfield 102, 3) := by decide +kernel
theorem xnd_RD_checkVersion_41 : decode xnc_RD_checkVersion 41 = .ok (.aload_n 0, 1) := by decide +kernel
theorem xnd_RD_checkVersion_42 : decode xnc_RD_checkVersion 42 = .ok (.aload_n 0, 1) := by decide +kernel
theorem xnd_RD_checkVersion_43 : decode xnc_RD_checkVersion 43 = .ok (.getfield 34, 3) := by decide +kernel
theorem xnd_RD_checkVersion_46 : decode xnc_RD_checkVersion 46 = .ok (.iconst 3, 1) := by decide +kernel
theorem xnd_RD_checkVersion_47 : decode xnc_RD_checkVersion 47 = .ok (.if_icmp .lt 8, 3) := by decide +kernel
theorem xnd_RD_checkVersion_50 : decode xnc_RD_checkVersion 50 = .ok (.bipush 6, 2) := by decide +kernel
theorem xnd_RD_checkVersion_52 : decode xnc_RD_checkVersion 52 = .ok (.goto 4, 3) := by decide +kernel
theorem xnd_RD_checkVersion_55 : decode xnc_RD_checkVersion 55 = .ok (.iconst 1, 1) := by decide +kernel
theorem xnd_RD_checkVersion_56 : decode xnc_RD_checkVersion 56 = .ok (.putfield 23, 3) := by decide +kernel
theorem xnd_RD_checkVersion_59 : decode xnc_RD_checkVersion 59 = .ok (.goto 34, 3) := by decide +kernel
theorem xnd_RD_checkVersion_62 : decode xnc_RD_checkVersion 62 = .ok (.aload_n 0, 1) := by decide +kernel
theorem xnd_RD_checkVersion_63 : decode xnc_RD_checkVersion 63 = .ok (.aload_n 0, 1) := by decide +kernel
theorem xnd_RD_checkVersion_64 : decode xnc_RD_checkVersion 64 = .ok (.getfield 81, 3) := by decide +kernel
theorem xnd_RD_checkVersion_67 : decode xnc_RD_checkVersion 67 = .ok (.iconst (-1), 1) := by decide +kernel
theorem xnd_RD_checkVersion_68 : decode xnc_RD_checkVersion 68 = .ok (.if_icmp .eq 21, 3) := by decide +kernel
theorem xnd_RD_checkVersion_71 : decode xnc_RD_checkVersion 71 = .ok (.aload_n 0, 1) := by decide +kernel
theorem xnd_RD_checkVersion_72 : decode xnc_RD_checkVersion 72 = .ok (.getfield 9, 3) := by decide +kernel
theorem xnd_RD_checkVersion_75 : decode xnc_RD_checkVersion 75 = .ok (.aload_n 0, 1) := by decide +kernel
theorem xnd_RD_checkVersion_76 : decode xnc_RD_checkVersion 76 = .ok (.getfield 99, 3) := by decide +kernel
theorem xnd_RD_checkVersion_79 : decode xnc_RD_checkVersion 79 = .ok (.invokevirtual 103, 3) := by decide +kernel
theorem xnd_RD_checkVersion_82 : decode xnc_RD_checkVersion 82 = .ok (.ifCond .ne 7, 3) := by decide +kernel
theorem xnd_RD_checkVersion_85 : decode xnc_RD_checkVersion 85 = .ok (.iconst 1, 1) := by decide +kernel
theorem xnd_RD_checkVersion_86 : decode xnc_RD_checkVersion 86 = .ok (.goto 4, 3) := by decide +kernel
theorem xnd_RD_checkVersion_89 : decode xnc_RD_checkVersion 89 = .ok (.iconst 0, 1) := by decide +kernel
theorem xnd_RD_checkVersion_90 : decode xnc_RD_checkVersion 90 = .ok (.invokevirtual 107, 3) := by decide +kernel
theorem xnd_RD_checkVersion_93 : decode xnc_RD_checkVersion 93 = .ok (.return_, 1) := by decide +kernel
theorem xnd_RD_end_0 : decode xnc_RD_end 0 = .ok (.iload_n 1, 1) := by decide +kernel
theorem xnd_RD_end_1 : decode xnc_RD_end 1 = .ok (.ifCond .eq 16, 3) := by decide +kernel
theorem xnd_RD_end_4 : decode xnc_RD_end 4 = .ok (.aload_n 0, 1) := by decide +kernel
theorem xnd_RD_end_5 : decode xnc_RD_end 5 = .ok (.getfield 9, 3) := by decide +kernel
theorem xnd_RD_end_8 : decode xnc_RD_end 8 = .ok (.getfield 120, 3) := by decide +kernel
theorem xnd_RD_end_11 : decode xnc_RD_end 11 = .ok (.aload_n 0, 1) := by decide +kernel
theorem xnd_RD_end_12 : decode xnc_RD_end 12 = .ok (.getfield 81, 3) := by decide +kernel
theorem xnd_RD_end_15 : decode xnc_RD_end 15 = .ok (.iconst 1, 1) := by decide +kernel
theorem xnd_RD_end_16 : decode xnc_RD_end 16 = .ok (.bastore, 1) := by decide +kernel
theorem xnd_RD_end_17 : decode xnc_RD_end 17 = .ok (.aload_n 0, 1) := by decide +kernel
theorem xnd_RD_end_18 : decode xnc_RD_end 18 = .ok (.iload_n 1, 1) := by decide +kernel
theorem xnd_RD_end_19 : decode xnc_RD_end 19 = .ok (.ifCond .eq 8, 3) := by decide +kernel
theorem xnd_RD_end_22 : decode xnc_RD_end 22 = .ok (.bipush 7, 2) := by decide +kernel
theorem xnd_RD_end_24 : decode xnc_RD_end 24 = .ok (.goto 5, 3) := by decide +kernel
theorem xnd_RD_end_27 : decode xnc_RD_end 27 = .ok (.bipush 8, 2) := by decide +kernel
theorem xnd_RD_end_29 : decode xnc_RD_end 29 = .ok (.putfield 23, 3) := by decide +kernel
theorem xnd_RD_end_32 : decode xnc_RD_end 32 = .ok (.return_, 1) := by decide +kernel
theorem xnd_RD_readLocked_0 : decode xnc_RD_readLocked 0 = .ok (.aload_n 0, 1) := by decide +kernel
theorem xnd_RD_readLocked_1 : decode xnc_RD_readLocked 1 = .ok (.getfield 15, 3) := by decide +kernel
theorem xnd_RD_readLocked_4 : decode xnc_RD_readLocked 4 = .ok (.invokevirtual 111, 3) := by decide +kernel
theorem xnd_RD_readLocked_7 : decode xnc_RD_readLocked 7 = .ok (.ifCond .eq 17, 3) := by decide +kernel
theorem xnd_RD_readLocked_10 : decode xnc_RD_readLocked 10 = .ok (.aload_n 0, 1) := by decide +kernel
theorem xnd_RD_readLocked_11 : decode xnc_RD_readLocked 11 = .ok (.getfield 19, 3) := by decide +kernel
theorem xnd_RD_readLocked_14 : decode xnc_RD_readLocked 14 = .ok (.dup, 1) := by decide +kernel
theorem xnd_RD_readLocked_15 : decode xnc_RD_readLocked 15 = .ok (.getfield 68, 3) := by decide +kernel
theorem xnd_RD_readLocked_18 : decode xnc_RD_readLocked 18 = .ok (.iconst 1, 1) := by decide +kernel
theorem xnd_RD_readLocked_19 : decode xnc_RD_readLocked 19 = .ok (.iadd, 1) := by decide +kernel
theorem xnd_RD_readLocked_20 : decode xnc_RD_readLocked 20 = .ok (.putfield 68, 3) := by decide +kernel
theorem xnd_RD_readLocked_23 : decode xnc_RD_readLocked 23 = .ok (.return_, 1) := by decide +kernel
theorem xnd_RD_readLocked_24 : decode xnc_RD_readLocked 24 = .ok (.aload_n 0, 1) := by decide +kernel
theorem xnd_RD_readLocked_25 : decode xnc_RD_readLocked 25 = .ok (.getfield 9, 3) := by decide +kernel
theorem xnd_RD_readLocked_28 : decode xnc_RD_readLocked 28 = .ok (.aload_n 0, 1) := by decide +kernel
theorem xnd_RD_readLocked_29 : decode xnc_RD_readLocked 29 = .ok (.getfield 31, 3) := by decide +kernel
theorem xnd_RD_readLocked_32 : decode xnc_RD_readLocked 32 = .ok (.invokevirtual 117, 3) := by decide +kernel
theorem xnd_RD_readLocked_35 : decode xnc_RD_readLocked 35 = .ok (.istore_n 1, 1) := by decide +kernel
theorem xnd_RD_readLocked_36 : decode xnc_RD_readLocked 36 = .ok (.aload_n 0, 1) := by decide +kernel
theorem xnd_RD_readLocked_37 : decode xnc_RD_readLocked 37 = .ok (.iload_n 1, 1) := by decide +kernel
theorem xnd_RD_readLocked_38 : decode xnc_RD_readLocked 38 = .ok (.iconst (-1), 1) := by decide +kernel
theorem xnd_RD_readLocked_39 : decode xnc_RD_readLocked 39 = .ok (.if_icmp .eq 15, 3) := by decide +kernel
theorem xnd_RD_readLocked_42 : decode xnc_RD_readLocked 42 = .ok (.aload_n 0, 1) := by decide +kernel
theorem xnd_RD_readLocked_43 : decode xnc_RD_readLocked 43 = .ok (.getfield 9, 3) := by decide +kernel
theorem xnd_RD_readLocked_46 : decode xnc_RD_readLocked 46 = .ok (.getfield 77, 3) := by decide +kernel
theorem xnd_RD_readLocked_49 : decode xnc_RD_readLocked 49 = .ok (.iload_n 1, 1) := by decide +kernel
theorem xnd_RD_readLocked_50 : decode xnc_RD_readLocked 50 = .ok (.iaload, 1) := by decide +kernel
theorem xnd_RD_readLocked_51 : decode xnc_RD_readLocked 51 = .ok (.goto 4, 3) := by decide +kernel
theorem xnd_RD_readLocked_54 : decode xnc_RD_readLocked 54 = .ok (.iconst (-1), 1) := by decide +kernel
theorem xnd_RD_readLocked_55 : decode xnc_RD_readLocked 55 = .ok (.putfield 81, 3) := by decide +kernel
theorem xnd_RD_readLocked_58 : decode xnc_RD_readLocked 58 = .ok (.aload_n 0, 1) := by decide +kernel
theorem xnd_RD_readLocked_59 : decode xnc_RD_readLocked 59 = .ok (.getfield 81, 3) := by decide +kernel
theorem xnd_RD_readLocked_62 : decode xnc_RD_readLocked 62 = .ok (.iconst (-1), 1) := by decide +kernel
theorem xnd_RD_readLocked_63 : decode xnc_RD_readLocked 63 = .ok (.if_icmp .eq 7, 3) := by decide +kernel
theorem xnd_RD_readLocked_66 : decode xnc_RD_readLocked 66 = .ok (.aload_n 0, 1) := by decide +kernel
theorem xnd_RD_readLocked_67 : decode xnc_RD_readLocked 67 = .ok (.invokevirtual 51, 3) := by decide +kernel
theorem xnd_RD_readLocked_70 : decode xnc_RD_readLocked 70 = .ok (.aload_n 0, 1) := by decide +kernel
theorem xnd_RD_readLocked_71 : decode xnc_RD_readLocked 71 = .ok (.aload_n 0, 1) := by decide +kernel
theorem xnd_RD_readLocked_72 : decode xnc_RD_readLocked 72 = .ok (.getfield 81, 3) := by decide +kernel
theorem xnd_RD_readLocked_75 : decode xnc_RD_readLocked 75 = .ok (.iconst (-1), 1) := by decide +kernel
theorem xnd_RD_readLocked_76 : decode xnc_RD_readLocked 76 = .ok (.if_icmp .eq 21, 3) := by decide +kernel
theorem xnd_RD_readLocked_79 : decode xnc_RD_readLocked 79 = .ok (.aload_n 0, 1) := by decide +kernel
theorem xnd_RD_readLocked_80 : decode xnc_RD_readLocked 80 = .ok (.getfield 9, 3) := by decide +kernel
theorem xnd_RD_readLocked_83 : decode xnc_RD_readLocked 83 = .ok (.aload_n 0, 1) := by decide +kernel
theorem xnd_RD_readLocked_84 : decode xnc_RD_readLocked 84 = .ok (.getfield 99, 3) := by decide +kernel
theorem xnd_RD_readLocked_87 : decode xnc_RD_readLocked 87 = .ok (.invokevirtual 103, 3) := by decide +kernel
theorem xnd_RD_readLocked_90 : decode xnc_RD_readLocked 90 = .ok (.ifCond .ne 7, 3) := by decide +kernel
theorem xnd_RD_readLocked_93 : decode xnc_RD_readLocked 93 = .ok (.iconst 1, 1) := by decide +kernel
theorem xnd_RD_readLocked_94 : decode xnc_RD_readLocked 94 = .ok (.goto 4, 3) := by decide +kernel
theorem xnd_RD_readLocked_97 : decode xnc_RD_readLocked 97 = .ok (.iconst 0, 1) := by decide +kernel
theorem xnd_RD_readLocked_98 : decode xnc_RD_readLocked 98 = .ok (.invokevirtual 107, 3) := by decide +kernel
theorem xnd_RD_readLocked_101 : decode xnc_RD_readLocked 101 = .ok (.return_, 1) := by decide +kernel
theorem xnd_SC_state_0 : decode xnc_SC_state 0 = .ok (.iload_n 1, 1) := by decide +kernel
theorem xnd_SC_state_1 : decode xnc_SC_state 1 = .ok (.invokestatic 62, 3) := by decide +kernel
theorem xnd_SC_state_4 : decode xnc_SC_state 4 = .ok (.ifCond .eq 15, 3) := by decide +kernel
theorem xnd_SC_state_7 : decode xnc_SC_state 7 = .ok (.aload_n 0, 1) := by decide +kernel
theorem xnd_SC_state_8 : decode xnc_SC_state 8 = .ok (.getfield 40, 3) := by decide +kernel
theorem xnd_SC_state_11 : decode xnc_SC_state 11 = .ok (.iload_n 1, 1) := by decide +kernel
theorem xnd_SC_state_12 : decode xnc_SC_state 12 = .ok (.aaload, 1) := by decide +kernel
theorem xnd_SC_state_13 : decode xnc_SC_state 13 = .ok (.getfield 71, 3) := by decide +kernel
theorem xnd_SC_state_16 : decode xnc_SC_state 16 = .ok (.goto 4, 3) := by decide +kernel
theorem xnd_SC_state_19 : decode xnc_SC_state 19 = .ok (.iconst (-1), 1) := by decide +kernel
theorem xnd_SC_state_20 : decode xnc_SC_state 20 = .ok (.ireturn, 1) := by decide +kernel
theorem xnd_SC_value_0 : decode xnc_SC_value 0 = .ok (.aload_n 0, 1) := by decide +kernel
theorem xnd_SC_value_1 : decode xnc_SC_value 1 = .ok (.iload_n 1, 1) := by decide +kernel
theorem xnd_SC_value_2 : decode xnc_SC_value 2 = .ok (.invokevirtual 74, 3) := by decide +kernel
theorem xnd_SC_value_5 : decode xnc_SC_value 5 = .ok (.ifCond .eq 15, 3) := by decide +kernel
theorem xnd_SC_value_8 : decode xnc_SC_value 8 = .ok (.aload_n 0, 1) := by decide +kernel
theorem xnd_SC_value_9 : decode xnc_SC_value 9 = .ok (.getfield 40, 3) := by decide +kernel
theorem xnd_SC_value_12 : decode xnc_SC_value 12 = .ok (.iload_n 1, 1) := by decide +kernel
theorem xnd_SC_value_13 : decode xnc_SC_value 13 = .ok (.aaload, 1) := by decide +kernel
theorem xnd_SC_value_14 : decode xnc_SC_value 14 = .ok (.getfield 77, 3) := by decide +kernel
theorem xnd_SC_value_17 : decode xnc_SC_value 17 = .ok (.goto 4, 3) := by decide +kernel
theorem xnd_SC_value_20 : decode xnc_SC_value 20 = .ok (.iconst 0, 1) := by decide +kernel
theorem xnd_SC_value_21 : decode xnc_SC_value 21 = .ok (.ireturn, 1) := by decide +kernel
theorem xnd_SC_isHit_0 : decode xnc_SC_isHit 0 = .ok (.iload_n 1, 1) := by decide +kernel
theorem xnd_SC_isHit_1 : decode xnc_SC_isHit 1 = .ok (.invokestatic 62, 3) := by decide +kernel
theorem xnd_SC_isHit_4 : decode xnc_SC_isHit 4 = .ok (.ifCond .eq 21, 3) := by decide +kernel
theorem xnd_SC_isHit_7 : decode xnc_SC_isHit 7 = .ok (.aload_n 0, 1) := by decide +kernel
theorem xnd_SC_isHit_8 : decode xnc_SC_isHit 8 = .ok (.getfield 40, 3) := by decide +kernel
theorem xnd_SC_isHit_11 : decode xnc_SC_isHit 11 = .ok (.iload_n 1, 1) := by decide +kernel
theorem xnd_SC_isHit_12 : decode xnc_SC_isHit 12 = .ok (.aaload, 1) := by decide +kernel
theorem xnd_SC_isHit_13 : decode xnc_SC_isHit 13 = .ok (.getfield 71, 3) := by decide +kernel
theorem xnd_SC_isHit_16 : decode xnc_SC_isHit 16 = .ok (.bipush 7, 2) := by decide +kernel
theorem xnd_SC_isHit_18 : decode xnc_SC_isHit 18 = .ok (.if_icmp .ne 7, 3) := by decide +kernel
theorem xnd_SC_isHit_21 : decode xnc_SC_isHit 21 = .ok (.iconst 1, 1) := by decide +kernel
theorem xnd_SC_isHit_22 : decode xnc_SC_isHit 22 = .ok (.goto 4, 3) := by decide +kernel
theorem xnd_SC_isHit_25 : decode xnc_SC_isHit 25 = .ok (.iconst 0, 1) := by decide +kernel
theorem xnd_SC_isHit_26 : decode xnc_SC_isHit 26 = .ok (.ireturn, 1) := by decide +kernel
theorem xnd_SC_token_0 : decode xnc_SC_token 0 = .ok (.aload_n 0, 1) := by decide +kernel
theorem xnd_SC_token_1 : decode xnc_SC_token 1 = .ok (.iload_n 1, 1) := by decide +kernel
theorem xnd_SC_token_2 : decode xnc_SC_token 2 = .ok (.invokevirtual 74, 3) := by decide +kernel
theorem xnd_SC_token_5 : decode xnc_SC_token 5 = .ok (.ifCond .eq 15, 3) := by decide +kernel
theorem xnd_SC_token_8 : decode xnc_SC_token 8 = .ok (.aload_n 0, 1) := by decide +kernel
theorem xnd_SC_token_9 : decode xnc_SC_token 9 = .ok (.getfield 40, 3) := by decide +kernel
theorem xnd_SC_token_12 : decode xnc_SC_token 12 = .ok (.iload_n 1, 1) := by decide +kernel
theorem xnd_SC_token_13 : decode xnc_SC_token 13 = .ok (.aaload, 1) := by decide +kernel
theorem xnd_SC_token_14 : decode xnc_SC_token 14 = .ok (.getfield 80, 3) := by decide +kernel
theorem xnd_SC_token_17 : decode xnc_SC_token 17 = .ok (.goto 4, 3) := by decide +kernel
theorem xnd_SC_token_20 : decode xnc_SC_token 20 = .ok (.iconst 0, 1) := by decide +kernel
theorem xnd_SC_token_21 : decode xnc_SC_token 21 = .ok (.ireturn, 1) := by decide +kernel
theorem xnd_SC_pass_0 : decode xnc_SC_pass 0 = .ok (.iload_n 1, 1) := by decide +kernel
theorem xnd_SC_pass_1 : decode xnc_SC_pass 1 = .ok (.iconst 1, 1) := by decide +kernel
theorem xnd_SC_pass_2 : decode xnc_SC_pass 2 = .ok (.sipush 1000, 3) := by decide +kernel
theorem xnd_SC_pass_5 : decode xnc_SC_pass 5 = .ok (.invokestatic 18, 3) := by decide +kernel
theorem xnd_SC_pass_8 : decode xnc_SC_pass 8 = .ok (.ifCond .ne 5, 3) := by decide +kernel
theorem xnd_SC_pass_11 : decode xnc_SC_pass 11 = .ok (.iconst 0, 1) := by decide +kernel
theorem xnd_SC_pass_12 : decode xnc_SC_pass 12 = .ok (.ireturn, 1) := by decide +kernel
theorem xnd_SC_pass_13 : decode xnc_SC_pass 13 = .ok (.aload_n 0, 1) := by decide +kernel
theorem xnd_SC_pass_14 : decode xnc_SC_pass 14 = .ok (.getfield 25, 3) := by decide +kernel
theorem xnd_SC_pass_17 : decode xnc_SC_pass 17 = .ok (.dup, 1) := by decide +kernel
theorem xnd_SC_pass_18 : decode xnc_SC_pass 18 = .ok (.getfield 83, 3) := by decide +kernel
theorem xnd_SC_pass_21 : decode xnc_SC_pass 21 = .ok (.iload_n 1, 1) := by decide +kernel
theorem xnd_SC_pass_22 : decode xnc_SC_pass 22 = .ok (.iadd, 1) := by decide +kernel
theorem xnd_SC_pass_23 : decode xnc_SC_pass 23 = .ok (.putfield 83, 3) := by decide +kernel
theorem xnd_SC_pass_26 : decode xnc_SC_pass 26 = .ok (.iconst 1, 1) := by decide +kernel
theorem xnd_SC_pass_27 : decode xnc_SC_pass 27 = .ok (.ireturn, 1) := by decide +kernel
theorem xnd_SC_where_0 : decode xnc_SC_where 0 = .ok (.aload_n 0, 1) := by decide +kernel
theorem xnd_SC_where_1 : decode xnc_SC_where 1 = .ok (.getfield 25, 3) := by decide +kernel
theorem xnd_SC_where_4 : decode xnc_SC_where 4 = .ok (.iload_n 1, 1) := by decide +kernel
theorem xnd_SC_where_5 : decode xnc_SC_where 5 = .ok (.invokevirtual 86, 3) := by decide +kernel
theorem xnd_SC_where_8 : decode xnc_SC_where 8 = .ok (.ireturn, 1) := by decide +kernel
theorem xnd_ST_find_0 : decode xnc_ST_find 0 = .ok (.aload_n 0, 1) := by decide +kernel
theorem xnd_ST_find_1 : decode xnc_ST_find 1 = .ok (.iload_n 1, 1) := by decide +kernel
theorem xnd_ST_find_2 : decode xnc_ST_find 2 = .ok (.invokestatic 60, 3) := by decide +kernel
theorem xnd_ST_find_5 : decode xnc_ST_find 5 = .ok (.iload_n 1, 1) := by decide +kernel
theorem xnd_ST_find_6 : decode xnc_ST_find 6 = .ok (.invokevirtual 64, 3) := by decide +kernel
theorem xnd_ST_find_9 : decode xnc_ST_find 9 = .ok (.istore_n 2, 1) := by decide +kernel
theorem xnd_ST_find_10 : decode xnc_ST_find 10 = .ok (.iload_n 2, 1) := by decide +kernel
theorem xnd_ST_find_11 : decode xnc_ST_find 11 = .ok (.iconst (-1), 1) := by decide +kernel
theorem xnd_ST_find_12 : decode xnc_ST_find 12 = .ok (.if_icmp .eq 7, 3) := by decide +kernel
theorem xnd_ST_find_15 : decode xnc_ST_find 15 = .ok (.iload_n 2, 1) := by decide +kernel
theorem xnd_ST_find_16 : decode xnc_ST_find 16 = .ok (.goto 12, 3) := by decide +kernel
theorem xnd_ST_find_19 : decode xnc_ST_find 19 = .ok (.aload_n 0, 1) := by decide +kernel
theorem xnd_ST_find_20 : decode xnc_ST_find 20 = .ok (.iload_n 1, 1) := by decide +kernel
theorem xnd_ST_find_21 : decode xnc_ST_find 21 = .ok (.invokestatic 68, 3) := by decide +kernel
theorem xnd_ST_find_24 : decode xnc_ST_find 24 = .ok (.iload_n 1, 1) := by decide +kernel
theorem xnd_ST_find_25 : decode xnc_ST_find 25 = .ok (.invokevirtual 64, 3) := by decide +kernel
theorem xnd_ST_find_28 : decode xnc_ST_find 28 = .ok (.ireturn, 1) := by decide +kernel
theorem xnd_SC_at_0 : decode xnc_SC_at 0 = .ok (.iload_n 1, 1) := by decide +kernel
theorem xnd_SC_at_1 : decode xnc_SC_at 1 = .ok (.iconst 0, 1) := by decide +kernel
theorem xnd_SC_at_2 : decode xnc_SC_at 2 = .ok (.aload_n 0, 1) := by decide +kernel
theorem xnd_SC_at_3 : decode xnc_SC_at 3 = .ok (.getfield 25, 3) := by decide +kernel
theorem xnd_SC_at_6 : decode xnc_SC_at 6 = .ok (.getfield 90, 3) := by decide +kernel
theorem xnd_SC_at_9 : decode xnc_SC_at 9 = .ok (.arraylength, 1) := by decide +kernel
theorem xnd_SC_at_10 : decode xnc_SC_at 10 = .ok (.iconst 1, 1) := by decide +kernel
theorem xnd_SC_at_11 : decode xnc_SC_at 11 = .ok (.isub, 1) := by decide +kernel
theorem xnd_SC_at_12 : decode xnc_SC_at 12 = .ok (.invokestatic 18, 3) := by decide +kernel
theorem xnd_SC_at_15 : decode xnc_SC_at 15 = .ok (.ifCond .eq 15, 3) := by decide +kernel
theorem xnd_SC_at_18 : decode xnc_SC_at 18 = .ok (.aload_n 0, 1) := by decide +kernel
theorem xnd_SC_at_19 : decode xnc_SC_at 19 = .ok (.getfield 25, 3) := by decide +kernel
theorem xnd_SC_at_22 : decode xnc_SC_at 22 = .ok (.getfield 90, 3) := by decide +kernel
theorem xnd_SC_at_25 : decode xnc_SC_at 25 = .ok (.iload_n 1, 1) := by decide +kernel
theorem xnd_SC_at_26 : decode xnc_SC_at 26 = .ok (.iaload, 1) := by decide +kernel
theorem xnd_SC_at_27 : decode xnc_SC_at 27 = .ok (.goto 4, 3) := by decide +kernel
theorem xnd_SC_at_30 : decode xnc_SC_at 30 = .ok (.iconst (-1), 1) := by decide +kernel
theorem xnd_SC_at_31 : decode xnc_SC_at 31 = .ok (.ireturn, 1) := by decide +kernel
theorem xnd_SC_item_0 : decode xnc_SC_item 0 = .ok (.aload_n 0, 1) := by decide +kernel
theorem xnd_SC_item_1 : decode xnc_SC_item 1 = .ok (.iload_n 1, 1) := by decide +kernel
theorem xnd_SC_item_2 : decode xnc_SC_item 2 = .ok (.invokevirtual 94, 3) := by decide +kernel
theorem xnd_SC_item_5 : decode xnc_SC_item 5 = .ok (.ifCond .ne 5, 3) := by decide +kernel
theorem xnd_SC_item_8 : decode xnc_SC_item 8 = .ok (.iconst 0, 1) := by decide +kernel
theorem xnd_SC_item_9 : decode xnc_SC_item 9 = .ok (.ireturn, 1) := by decide +kernel
theorem xnd_SC_item_10 : decode xnc_SC_item 10 = .ok (.iload_n 2, 1) := by decide +kernel
theorem xnd_SC_item_11 : decode xnc_SC_item 11 = .ok (.tableswitch 91 0 4 #[33, 43, 53, 63, 73], 33) := by decide +kernel
theorem xnd_SC_item_44 : decode xnc_SC_item 44 = .ok (.aload_n 0, 1) := by decide +kernel
theorem xnd_SC_item_45 : decode xnc_SC_item 45 = .ok (.getfield 25, 3) := by decide +kernel
theorem xnd_SC_item_48 : decode xnc_SC_item 48 = .ok (.getfield 97, 3) := by decide +kernel
theorem xnd_SC_item_51 : decode xnc_SC_item 51 = .ok (.iload_n 1, 1) := by decide +kernel
theorem xnd_SC_item_52 : decode xnc_SC_item 52 = .ok (.iaload, 1) := by decide +kernel
theorem xnd_SC_item_53 : decode xnc_SC_item 53 = .ok (.ireturn, 1) := by decide +kernel
theorem xnd_SC_item_54 : decode xnc_SC_item 54 = .ok (.aload_n 0, 1) := by decide +kernel
theorem xnd_SC_item_55 : decode xnc_SC_item 55 = .ok (.getfield 25, 3) := by decide +kernel
theorem xnd_SC_item_58 : decode xnc_SC_item 58 = .ok (.getfield 100, 3) := by decide +kernel
theorem xnd_SC_item_61 : decode xnc_SC_item 61 = .ok (.iload_n 1, 1) := by decide +kernel
theorem xnd_SC_item_62 : decode xnc_SC_item 62 = .ok (.iaload, 1) := by decide +kernel
theorem xnd_SC_item_63 : decode xnc_SC_item 63 = .ok (.ireturn, 1) := by decide +kernel
theorem xnd_SC_item_64 : decode xnc_SC_item 64 = .ok (.aload_n 0, 1) := by decide +kernel
theorem xnd_SC_item_65 : decode xnc_SC_item 65 = .ok (.getfield 25, 3) := by decide +kernel
theorem xnd_SC_item_68 : decode xnc_SC_item 68 = .ok (.getfield 103, 3) := by decide +kernel
theorem xnd_SC_item_71 : decode xnc_SC_item 71 = .ok (.iload_n 1, 1) := by decide +kernel
theorem xnd_SC_item_72 : decode xnc_SC_item 72 = .ok (.iaload, 1) := by decide +kernel
theorem xnd_SC_item_73 : decode xnc_SC_item 73 = .ok (.ireturn, 1) := by decide +kernel
theorem xnd_SC_item_74 : decode xnc_SC_item 74 = .ok (.aload_n 0, 1) := by decide +kernel
theorem xnd_SC_item_75 : decode xnc_SC_item 75 = .ok (.getfield 25, 3) := by decide +kernel
theorem xnd_SC_item_78 : decode xnc_SC_item 78 = .ok (.getfield 106, 3) := by decide +kernel
theorem xnd_SC_item_81 : decode xnc_SC_item 81 = .ok (.iload_n 1, 1) := by decide +kernel
theorem xnd_SC_item_82 : decode xnc_SC_item 82 = .ok (.iaload, 1) := by decide +kernel
theorem xnd_SC_item_83 : decode xnc_SC_item 83 = .ok (.ireturn, 1) := by decide +kernel
theorem xnd_SC_item_84 : decode xnc_SC_item 84 = .ok (.aload_n 0, 1) := by decide +kernel
theorem xnd_SC_item_85 : decode xnc_SC_item 85 = .ok (.getfield 25, 3) := by decide +kernel
theorem xnd_SC_item_88 : decode xnc_SC_item 88 = .ok (.getfield 109, 3) := by decide +kernel
theorem xnd_SC_item_91 : decode xnc_SC_item 91 = .ok (.iload_n 1, 1) := by decide +kernel
theorem xnd_SC_item_92 : decode xnc_SC_item 92 = .ok (.baload, 1) := by decide +kernel
theorem xnd_SC_item_93 : decode xnc_SC_item 93 = .ok (.ifCond .eq 7, 3) := by decide +kernel
theorem xnd_SC_item_96 : decode xnc_SC_item 96 = .ok (.iconst 1, 1) := by decide +kernel
theorem xnd_SC_item_97 : decode xnc_SC_item 97 = .ok (.goto 4, 3) := by decide +kernel
theorem xnd_SC_item_100 : decode xnc_SC_item 100 = .ok (.iconst 0, 1) := by decide +kernel
theorem xnd_SC_item_101 : decode xnc_SC_item 101 = .ok (.ireturn, 1) := by decide +kernel
theorem xnd_SC_item_102 : decode xnc_SC_item 102 = .ok (.iconst 0, 1) := by decide +kernel
theorem xnd_SC_item_103 : decode xnc_SC_item 103 = .ok (.ireturn, 1) := by decide +kernel
theorem xnd_SC_isUsedItem_0 : decode xnc_SC_isUsedItem 0 = .ok (.iload_n 1, 1) := by decide +kernel
theorem xnd_SC_isUsedItem_1 : decode xnc_SC_isUsedItem 1 = .ok (.iconst 0, 1) := by decide +kernel
theorem xnd_SC_isUsedItem_2 : decode xnc_SC_isUsedItem 2 = .ok (.aload_n 0, 1) := by decide +kernel
theorem xnd_SC_isUsedItem_3 : decode xnc_SC_isUsedItem 3 = .ok (.getfield 25, 3) := by decide +kernel
theorem xnd_SC_isUsedItem_6 : decode xnc_SC_isUsedItem 6 = .ok (.getfield 155, 3) := by decide +kernel
theorem xnd_SC_isUsedItem_9 : decode xnc_SC_isUsedItem 9 = .ok (.iconst 1, 1) := by decide +kernel
theorem xnd_SC_isUsedItem_10 : decode xnc_SC_isUsedItem 10 = .ok (.isub, 1) := by decide +kernel
theorem xnd_SC_isUsedItem_11 : decode xnc_SC_isUsedItem 11 = .ok (.invokestatic 18, 3) := by decide +kernel
theorem xnd_SC_isUsedItem_14 : decode xnc_SC_isUsedItem 14 = .ok (.ifCond .eq 19, 3) := by decide +kernel
theorem xnd_SC_isUsedItem_17 : decode xnc_SC_isUsedItem 17 = .ok (.aload_n 0, 1) := by decide +kernel
theorem xnd_SC_isUsedItem_18 : decode xnc_SC_isUsedItem 18 = .ok (.getfield 25, 3) := by decide +kernel
theorem xnd_SC_isUsedItem_21 : decode xnc_SC_isUsedItem 21 = .ok (.getfield 158, 3) := by decide +kernel
theorem xnd_SC_isUsedItem_24 : decode xnc_SC_isUsedItem 24 = .ok (.iload_n 1, 1) := by decide +kernel
theorem xnd_SC_isUsedItem_25 : decode xnc_SC_isUsedItem 25 = .ok (.baload, 1) := by decide +kernel
theorem xnd_SC_isUsedItem_26 : decode xnc_SC_isUsedItem 26 = .ok (.ifCond .eq 7, 3) := by decide +kernel
theorem xnd_SC_isUsedItem_29 : decode xnc_SC_isUsedItem 29 = .ok (.iconst 1, 1) := by decide +kernel
theorem xnd_SC_isUsedItem_30 : decode xnc_SC_isUsedItem 30 = .ok (.goto 4, 3) := by decide +kernel
theorem xnd_SC_isUsedItem_33 : decode xnc_SC_isUsedItem 33 = .ok (.iconst 0, 1) := by decide +kernel
theorem xnd_SC_isUsedItem_34 : decode xnc_SC_isUsedItem 34 = .ok (.ireturn, 1) := by decide +kernel
theorem xnd_SC_used_0 : decode xnc_SC_used 0 = .ok (.aload_n 0, 1) := by decide +kernel
theorem xnd_SC_used_1 : decode xnc_SC_used 1 = .ok (.iload_n 1, 1) := by decide +kernel
theorem xnd_SC_used_2 : decode xnc_SC_used 2 = .ok (.invokevirtual 94, 3) := by decide +kernel
theorem xnd_SC_used_5 : decode xnc_SC_used 5 = .ok (.ireturn, 1) := by decide +kernel
theorem xnd_SC_version_0 : decode xnc_SC_version 0 = .ok (.iload_n 1, 1) := by decide +kernel
theorem xnd_SC_version_1 : decode xnc_SC_version 1 = .ok (.iconst 0, 1) := by decide +kernel
theorem xnd_SC_version_2 : decode xnc_SC_version 2 = .ok (.iconst 3, 1) := by decide +kernel
theorem xnd_SC_version_3 : decode xnc_SC_version 3 = .ok (.invokestatic 18, 3) := by decide +kernel
theorem xnd_SC_version_6 : decode xnc_SC_version 6 = .ok (.ifCond .eq 15, 3) := by decide +kernel
theorem xnd_SC_version_9 : decode xnc_SC_version 9 = .ok (.aload_n 0, 1) := by decide +kernel
theorem xnd_SC_version_10 : decode xnc_SC_version 10 = .ok (.getfield 25, 3) := by decide +kernel
theorem xnd_SC_version_13 : decode xnc_SC_version 13 = .ok (.getfield 113, 3) := by decide +kernel
theorem xnd_SC_version_16 : decode xnc_SC_version 16 = .ok (.iload_n 1, 1) := by decide +kernel
theorem xnd_SC_version_17 : decode xnc_SC_version 17 = .ok (.iaload, 1) := by decide +kernel
theorem xnd_SC_version_18 : decode xnc_SC_version 18 = .ok (.goto 4, 3) := by decide +kernel
theorem xnd_SC_version_21 : decode xnc_SC_version 21 = .ok (.iconst (-1), 1) := by decide +kernel
theorem xnd_SC_version_22 : decode xnc_SC_version 22 = .ok (.ireturn, 1) := by decide +kernel
theorem xnd_SC_hash_0 : decode xnc_SC_hash 0 = .ok (.iload_n 1, 1) := by decide +kernel
theorem xnd_SC_hash_1 : decode xnc_SC_hash 1 = .ok (.invokestatic 116, 3) := by decide +kernel
theorem xnd_SC_hash_4 : decode xnc_SC_hash 4 = .ok (.bipush 8, 2) := by decide +kernel
theorem xnd_SC_hash_6 : decode xnc_SC_hash 6 = .ok (.iload_n 1, 1) := by decide +kernel
theorem xnd_SC_hash_7 : decode xnc_SC_hash 7 = .ok (.invokestatic 119, 3) := by decide +kernel
theorem xnd_SC_hash_10 : decode xnc_SC_hash 10 = .ok (.imul, 1) := by decide +kernel
theorem xnd_SC_hash_11 : decode xnc_SC_hash 11 = .ok (.iadd, 1) := by decide +kernel
theorem xnd_SC_hash_12 : decode xnc_SC_hash 12 = .ok (.bipush 64, 2) := by decide +kernel
theorem xnd_SC_hash_14 : decode xnc_SC_hash 14 = .ok (.iload_n 1, 1) := by decide +kernel
theorem xnd_SC_hash_15 : decode xnc_SC_hash 15 = .ok (.invokestatic 122, 3) := by decide +kernel
theorem xnd_SC_hash_18 : decode xnc_SC_hash 18 = .ok (.imul, 1) := by decide +kernel
theorem xnd_SC_hash_19 : decode xnc_SC_hash 19 = .ok (.iadd, 1) := by decide +kernel
theorem xnd_SC_hash_20 : decode xnc_SC_hash 20 = .ok (.sipush 1024, 3) := by decide +kernel
theorem xnd_SC_hash_23 : decode xnc_SC_hash 23 = .ok (.iload_n 1, 1) := by decide +kernel
theorem xnd_SC_hash_24 : decode xnc_SC_hash 24 = .ok (.invokestatic 125, 3) := by decide +kernel
theorem xnd_SC_hash_27 : decode xnc_SC_hash 27 = .ok (.imul, 1) := by decide +kernel
theorem xnd_SC_hash_28 : decode xnc_SC_hash 28 = .ok (.iadd, 1) := by decide +kernel
theorem xnd_SC_hash_29 : decode xnc_SC_hash 29 = .ok (.ireturn, 1) := by decide +kernel
theorem xnd_SC_count_0 : decode xnc_SC_count 0 = .ok (.iload_n 1, 1) := by decide +kernel
theorem xnd_SC_count_1 : decode xnc_SC_count 1 = .ok (.tableswitch 135 0 9 #[55, 63, 71, 79, 87, 95, 103, 111, 119, 127], 55) := by decide +kernel
theorem xnd_SC_count_56 : decode xnc_SC_count 56 = .ok (.aload_n 0, 1) := by decide +kernel
theorem xnd_SC_count_57 : decode xnc_SC_count 57 = .ok (.getfield 25, 3) := by decide +kernel
theorem xnd_SC_count_60 : decode xnc_SC_count 60 = .ok (.getfield 128, 3) := by decide +kernel
theorem xnd_SC_count_63 : decode xnc_SC_count 63 = .ok (.ireturn, 1) := by decide +kernel
theorem xnd_SC_count_64 : decode xnc_SC_count 64 = .ok (.aload_n 0, 1) := by decide +kernel
theorem xnd_SC_count_65 : decode xnc_SC_count 65 = .ok (.getfield 10, 3) := by decide +kernel
theorem xnd_SC_count_68 : decode xnc_SC_count 68 = .ok (.getfield 131, 3) := by decide +kernel
theorem xnd_SC_count_71 : decode xnc_SC_count 71 = .ok (.ireturn, 1) := by decide +kernel
theorem xnd_SC_count_72 : decode xnc_SC_count 72 = .ok (.aload_n 0, 1) := by decide +kernel
theorem xnd_SC_count_73 : decode xnc_SC_count 73 = .ok (.getfield 10, 3) := by decide +kernel
theorem xnd_SC_count_76 : decode xnc_SC_count 76 = .ok (.getfield 134, 3) := by decide +kernel
theorem xnd_SC_count_79 : decode xnc_SC_count 79 = .ok (.ireturn, 1) := by decide +kernel
theorem xnd_SC_count_80 : decode xnc_SC_count 80 = .ok (.aload_n 0, 1) := by decide +kernel
theorem xnd_SC_count_81 : decode xnc_SC_count 81 = .ok (.getfield 10, 3) := by decide +kernel
theorem xnd_SC_count_84 : decode xnc_SC_count 84 = .ok (.getfield 137, 3) := by decide +kernel
theorem xnd_SC_count_87 : decode xnc_SC_count 87 = .ok (.ireturn, 1) := by decide +kernel
theorem xnd_SC_count_88 : decode xnc_SC_count 88 = .ok (.aload_n 0, 1) := by decide +kernel
theorem xnd_SC_count_89 : decode xnc_SC_count 89 = .ok (.getfield 10, 3) := by decide +kernel
theorem xnd_SC_count_92 : decode xnc_SC_count 92 = .ok (.getfield 140, 3) := by decide +kernel
theorem xnd_SC_count_95 : decode xnc_SC_count 95 = .ok (.ireturn, 1) := by decide +kernel
theorem xnd_SC_count_96 : decode xnc_SC_count 96 = .ok (.aload_n 0, 1) := by decide +kernel
theorem xnd_SC_count_97 : decode xnc_SC_count 97 = .ok (.getfield 10, 3) := by decide +kernel
theorem xnd_SC_count_100 : decode xnc_SC_count 100 = .ok (.getfield 143, 3) := by decide +kernel
theorem xnd_SC_count_103 : decode xnc_SC_count 103 = .ok (.ireturn, 1) := by decide +kernel
theorem xnd_SC_count_104 : decode xnc_SC_count 104 = .ok (.aload_n 0, 1) := by decide +kernel
theorem xnd_SC_count_105 : decode xnc_SC_count 105 = .ok (.getfield 10, 3) := by decide +kernel
theorem xnd_SC_count_108 : decode xnc_SC_count 108 = .ok (.getfield 146, 3) := by decide +kernel
theorem xnd_SC_count_111 : decode xnc_SC_count 111 = .ok (.ireturn, 1) := by decide +kernel
theorem xnd_SC_count_112 : decode xnc_SC_count 112 = .ok (.aload_n 0, 1) := by decide +kernel
theorem xnd_SC_count_113 : decode xnc_SC_count 113 = .ok (.getfield 25, 3) := by decide +kernel
theorem xnd_SC_count_116 : decode xnc_SC_count 116 = .ok (.getfield 83, 3) := by decide +kernel
theorem xnd_SC_count_119 : decode xnc_SC_count 119 = .ok (.ireturn, 1) := by decide +kernel
theorem xnd_SC_count_120 : decode xnc_SC_count 120 = .ok (.aload_n 0, 1) := by decide +kernel
theorem xnd_SC_count_121 : decode xnc_SC_count 121 = .ok (.getfield 34, 3) := by decide +kernel
theorem xnd_SC_count_124 : decode xnc_SC_count 124 = .ok (.getfield 149, 3) := by decide +kernel
theorem xnd_SC_count_127 : decode xnc_SC_count 127 = .ok (.ireturn, 1) := by decide +kernel
theorem xnd_SC_count_128 : decode xnc_SC_count 128 = .ok (.aload_n 0, 1) := by decide +kernel
theorem xnd_SC_count_129 : decode xnc_SC_count 129 = .ok (.getfield 25, 3) := by decide +kernel
theorem xnd_SC_count_132 : decode xnc_SC_count 132 = .ok (.getfield 152, 3) := by decide +kernel
theorem xnd_SC_count_135 : decode xnc_SC_count 135 = .ok (.ireturn, 1) := by decide +kernel
theorem xnd_SC_count_136 : decode xnc_SC_count 136 = .ok (.iconst (-1), 1) := by decide +kernel
theorem xnd_SC_count_137 : decode xnc_SC_count 137 = .ok (.ireturn, 1) := by decide +kernel
end
section
theorem xnd_MO_init_0 : decode xnc_MO_init 0 = .ok (.aload_n 0, 1) := by decide +kernel
theorem xnd_MO_init_1 : decode xnc_MO_init 1 = .ok (.invokespecial 1, 3) := by decide +kernel
theorem xnd_MO_init_4 : decode xnc_MO_init 4 = .ok (.aload_n 0, 1) := by decide +kernel
theorem xnd_MO_init_5 : decode xnc_MO_init 5 = .ok (.bipush 32, 2) := by decide +kernel
theorem xnd_MO_init_7 : decode xnc_MO_init 7 = .ok (.newarray .int, 2) := by decide +kernel
theorem xnd_MO_init_9 : decode xnc_MO_init 9 = .ok (.putfield 7, 3) := by decide +kernel
theorem xnd_MO_init_12 : decode xnc_MO_init 12 = .ok (.aload_n 0, 1) := by decide +kernel
theorem xnd_MO_init_13 : decode xnc_MO_init 13 = .ok (.bipush 32, 2) := by decide +kernel
theorem xnd_MO_init_15 : decode xnc_MO_init 15 = .ok (.newarray .boolean, 2) := by decide +kernel
theorem xnd_MO_init_17 : decode xnc_MO_init 17 = .ok (.putfield 13, 3) := by decide +kernel
theorem xnd_MO_init_20 : decode xnc_MO_init 20 = .ok (.aload_n 0, 1) := by decide +kernel
theorem xnd_MO_init_21 : decode xnc_MO_init 21 = .ok (.bipush 32, 2) := by decide +kernel
theorem xnd_MO_init_23 : decode xnc_MO_init 23 = .ok (.newarray .int, 2) := by decide +kernel
theorem xnd_MO_init_25 : decode xnc_MO_init 25 = .ok (.putfield 17, 3) := by decide +kernel
theorem xnd_MO_init_28 : decode xnc_MO_init 28 = .ok (.aload_n 0, 1) := by decide +kernel
theorem xnd_MO_init_29 : decode xnc_MO_init 29 = .ok (.bipush 32, 2) := by decide +kernel
theorem xnd_MO_init_31 : decode xnc_MO_init 31 = .ok (.newarray .int, 2) := by decide +kernel
theorem xnd_MO_init_33 : decode xnc_MO_init 33 = .ok (.putfield 20, 3) := by decide +kernel
theorem xnd_MO_init_36 : decode xnc_MO_init 36 = .ok (.aload_n 0, 1) := by decide +kernel
theorem xnd_MO_init_37 : decode xnc_MO_init 37 = .ok (.bipush 32, 2) := by decide +kernel
theorem xnd_MO_init_39 : decode xnc_MO_init 39 = .ok (.newarray .int, 2) := by decide +kernel
theorem xnd_MO_init_41 : decode xnc_MO_init 41 = .ok (.putfield 23, 3) := by decide +kernel
theorem xnd_MO_init_44 : decode xnc_MO_init 44 = .ok (.aload_n 0, 1) := by decide +kernel
theorem xnd_MO_init_45 : decode xnc_MO_init 45 = .ok (.bipush 32, 2) := by decide +kernel
theorem xnd_MO_init_47 : decode xnc_MO_init 47 = .ok (.newarray .int, 2) := by decide +kernel
theorem xnd_MO_init_49 : decode xnc_MO_init 49 = .ok (.putfield 26, 3) := by decide +kernel
theorem xnd_MO_init_52 : decode xnc_MO_init 52 = .ok (.aload_n 0, 1) := by decide +kernel
theorem xnd_MO_init_53 : decode xnc_MO_init 53 = .ok (.bipush 32, 2) := by decide +kernel
theorem xnd_MO_init_55 : decode xnc_MO_init 55 = .ok (.newarray .boolean, 2) := by decide +kernel
theorem xnd_MO_init_57 : decode xnc_MO_init 57 = .ok (.putfield 29, 3) := by decide +kernel
theorem xnd_MO_init_60 : decode xnc_MO_init 60 = .ok (.aload_n 0, 1) := by decide +kernel
theorem xnd_MO_init_61 : decode xnc_MO_init 61 = .ok (.iconst 4, 1) := by decide +kernel
theorem xnd_MO_init_62 : decode xnc_MO_init 62 = .ok (.newarray .int, 2) := by decide +kernel
theorem xnd_MO_init_64 : decode xnc_MO_init 64 = .ok (.putfield 32, 3) := by decide +kernel
theorem xnd_MO_init_67 : decode xnc_MO_init 67 = .ok (.aload_n 0, 1) := by decide +kernel
theorem xnd_MO_init_68 : decode xnc_MO_init 68 = .ok (.iconst (-1), 1) := by decide +kernel
theorem xnd_MO_init_69 : decode xnc_MO_init 69 = .ok (.putfield 35, 3) := by decide +kernel
theorem xnd_MO_init_72 : decode xnc_MO_init 72 = .ok (.aload_n 0, 1) := by decide +kernel
theorem xnd_MO_init_73 : decode xnc_MO_init 73 = .ok (.iconst 5, 1) := by decide +kernel
theorem xnd_MO_init_74 : decode xnc_MO_init 74 = .ok (.newarray .int, 2) := by decide +kernel
theorem xnd_MO_init_76 : decode xnc_MO_init 76 = .ok (.putfield 39, 3) := by decide +kernel
theorem xnd_MO_init_79 : decode xnc_MO_init 79 = .ok (.aload_n 0, 1) := by decide +kernel
theorem xnd_MO_init_80 : decode xnc_MO_init 80 = .ok (.iconst 3, 1) := by decide +kernel
theorem xnd_MO_init_81 : decode xnc_MO_init 81 = .ok (.newarray .int, 2) := by decide +kernel
theorem xnd_MO_init_83 : decode xnc_MO_init 83 = .ok (.putfield 42, 3) := by decide +kernel
theorem xnd_MO_init_86 : decode xnc_MO_init 86 = .ok (.aload_n 0, 1) := by decide +kernel
theorem xnd_MO_init_87 : decode xnc_MO_init 87 = .ok (.iconst 3, 1) := by decide +kernel
theorem xnd_MO_init_88 : decode xnc_MO_init 88 = .ok (.newarray .int, 2) := by decide +kernel
theorem xnd_MO_init_90 : decode xnc_MO_init 90 = .ok (.putfield 45, 3) := by decide +kernel
theorem xnd_MO_init_93 : decode xnc_MO_init 93 = .ok (.aload_n 0, 1) := by decide +kernel
theorem xnd_MO_init_94 : decode xnc_MO_init 94 = .ok (.iconst 3, 1) := by decide +kernel
theorem xnd_MO_init_95 : decode xnc_MO_init 95 = .ok (.newarray .int, 2) := by decide +kernel
theorem xnd_MO_init_97 : decode xnc_MO_init 97 = .ok (.putfield 48, 3) := by decide +kernel
theorem xnd_MO_init_100 : decode xnc_MO_init 100 = .ok (.aload_n 0, 1) := by decide +kernel
theorem xnd_MO_init_101 : decode xnc_MO_init 101 = .ok (.iconst 3, 1) := by decide +kernel
theorem xnd_MO_init_102 : decode xnc_MO_init 102 = .ok (.newarray .int, 2) := by decide +kernel
theorem xnd_MO_init_104 : decode xnc_MO_init 104 = .ok (.putfield 51, 3) := by decide +kernel
theorem xnd_MO_init_107 : decode xnc_MO_init 107 = .ok (.aload_n 0, 1) := by decide +kernel
theorem xnd_MO_init_108 : decode xnc_MO_init 108 = .ok (.iconst 3, 1) := by decide +kernel
theorem xnd_MO_init_109 : decode xnc_MO_init 109 = .ok (.newarray .int, 2) := by decide +kernel
theorem xnd_MO_init_111 : decode xnc_MO_init 111 = .ok (.putfield 54, 3) := by decide +kernel
theorem xnd_MO_init_114 : decode xnc_MO_init 114 = .ok (.aload_n 0, 1) := by decide +kernel
theorem xnd_MO_init_115 : decode xnc_MO_init 115 = .ok (.iconst 3, 1) := by decide +kernel
theorem xnd_MO_init_116 : decode xnc_MO_init 116 = .ok (.newarray .int, 2) := by decide +kernel
theorem xnd_MO_init_118 : decode xnc_MO_init 118 = .ok (.putfield 57, 3) := by decide +kernel
theorem xnd_MO_init_121 : decode xnc_MO_init 121 = .ok (.aload_n 0, 1) := by decide +kernel
theorem xnd_MO_init_122 : decode xnc_MO_init 122 = .ok (.iconst 3, 1) := by decide +kernel
theorem xnd_MO_init_123 : decode xnc_MO_init 123 = .ok (.newarray .int, 2) := by decide +kernel
theorem xnd_MO_init_125 : decode xnc_MO_init 125 = .ok (.putfield 60, 3) := by decide +kernel
theorem xnd_MO_init_128 : decode xnc_MO_init 128 = .ok (.aload_n 0, 1) := by decide +kernel
theorem xnd_MO_init_129 : decode xnc_MO_init 129 = .ok (.iconst 3, 1) := by decide +kernel
theorem xnd_MO_init_130 : decode xnc_MO_init 130 = .ok (.newarray .int, 2) := by decide +kernel
theorem xnd_MO_init_132 : decode xnc_MO_init 132 = .ok (.putfield 63, 3) := by decide +kernel
theorem xnd_MO_init_135 : decode xnc_MO_init 135 = .ok (.aload_n 0, 1) := by decide +kernel
theorem xnd_MO_init_136 : decode xnc_MO_init 136 = .ok (.iload_n 1, 1) := by decide +kernel
theorem xnd_MO_init_137 : decode xnc_MO_init 137 = .ok (.iconst 1, 1) := by decide +kernel
theorem xnd_MO_init_138 : decode xnc_MO_init 138 = .ok (.if_icmp .lt 9, 3) := by decide +kernel
theorem xnd_MO_init_141 : decode xnc_MO_init 141 = .ok (.iload_n 1, 1) := by decide +kernel
theorem xnd_MO_init_142 : decode xnc_MO_init 142 = .ok (.bipush 32, 2) := by decide +kernel
theorem xnd_MO_init_144 : decode xnc_MO_init 144 = .ok (.if_icmp .le 8, 3) := by decide +kernel
theorem xnd_MO_init_147 : decode xnc_MO_init 147 = .ok (.bipush 12, 2) := by decide +kernel
theorem xnd_MO_init_149 : decode xnc_MO_init 149 = .ok (.goto 4, 3) := by decide +kernel
theorem xnd_MO_init_152 : decode xnc_MO_init 152 = .ok (.iload_n 1, 1) := by decide +kernel
theorem xnd_MO_init_153 : decode xnc_MO_init 153 = .ok (.putfield 66, 3) := by decide +kernel
theorem xnd_MO_init_156 : decode xnc_MO_init 156 = .ok (.aload_n 0, 1) := by decide +kernel
theorem xnd_MO_init_157 : decode xnc_MO_init 157 = .ok (.iload_n 2, 1) := by decide +kernel
theorem xnd_MO_init_158 : decode xnc_MO_init 158 = .ok (.iconst 1, 1) := by decide +kernel
theorem xnd_MO_init_159 : decode xnc_MO_init 159 = .ok (.if_icmp .lt 8, 3) := by decide +kernel
theorem xnd_MO_init_162 : decode xnc_MO_init 162 = .ok (.iload_n 2, 1) := by decide +kernel
theorem xnd_MO_init_163 : decode xnc_MO_init 163 = .ok (.iconst 4, 1) := by decide +kernel
theorem xnd_MO_init_164 : decode xnc_MO_init 164 = .ok (.if_icmp .le 7, 3) := by decide +kernel
theorem xnd_MO_init_167 : decode xnc_MO_init 167 = .ok (.iconst 2, 1) := by decide +kernel
theorem xnd_MO_init_168 : decode xnc_MO_init 168 = .ok (.goto 4, 3) := by decide +kernel
theorem xnd_MO_init_171 : decode xnc_MO_init 171 = .ok (.iload_n 2, 1) := by decide +kernel
theorem xnd_MO_init_172 : decode xnc_MO_init 172 = .ok (.putfield 69, 3) := by decide +kernel
theorem xnd_MO_init_175 : decode xnc_MO_init 175 = .ok (.return_, 1) := by decide +kernel
theorem xnd_MO_hash_0 : decode xnc_MO_hash 0 = .ok (.iload_n 1, 1) := by decide +kernel
theorem xnd_MO_hash_1 : decode xnc_MO_hash 1 = .ok (.iconst 0, 1) := by decide +kernel
theorem xnd_MO_hash_2 : decode xnc_MO_hash 2 = .ok (.invokestatic 80, 3) := by decide +kernel
theorem xnd_MO_hash_5 : decode xnc_MO_hash 5 = .ok (.bipush 8, 2) := by decide +kernel
theorem xnd_MO_hash_7 : decode xnc_MO_hash 7 = .ok (.iload_n 1, 1) := by decide +kernel
theorem xnd_MO_hash_8 : decode xnc_MO_hash 8 = .ok (.iconst 1, 1) := by decide +kernel
theorem xnd_MO_hash_9 : decode xnc_MO_hash 9 = .ok (.invokestatic 80, 3) := by decide +kernel
theorem xnd_MO_hash_12 : decode xnc_MO_hash 12 = .ok (.imul, 1) := by decide +kernel
theorem xnd_MO_hash_13 : decode xnc_MO_hash 13 = .ok (.iadd, 1) := by decide +kernel
theorem xnd_MO_hash_14 : decode xnc_MO_hash 14 = .ok (.bipush 64, 2) := by decide +kernel
theorem xnd_MO_hash_16 : decode xnc_MO_hash 16 = .ok (.iload_n 1, 1) := by decide +kernel
theorem xnd_MO_hash_17 : decode xnc_MO_hash 17 = .ok (.invokestatic 77, 3) := by decide +kernel
theorem xnd_MO_hash_20 : decode xnc_MO_hash 20 = .ok (.imul, 1) := by decide +kernel
theorem xnd_MO_hash_21 : decode xnc_MO_hash 21 = .ok (.iadd, 1) := by decide +kernel
theorem xnd_MO_hash_22 : decode xnc_MO_hash 22 = .ok (.sipush 1024, 3) := by decide +kernel
theorem xnd_MO_hash_25 : decode xnc_MO_hash 25 = .ok (.iload_n 1, 1) := by decide +kernel
theorem xnd_MO_hash_26 : decode xnc_MO_hash 26 = .ok (.invokestatic 84, 3) := by decide +kernel
theorem xnd_MO_hash_29 : decode xnc_MO_hash 29 = .ok (.imul, 1) := by decide +kernel
theorem xnd_MO_hash_30 : decode xnc_MO_hash 30 = .ok (.iadd, 1) := by decide +kernel
theorem xnd_MO_hash_31 : decode xnc_MO_hash 31 = .ok (.ireturn, 1) := by decide +kernel
theorem xnd_MO_bucket_0 : decode xnc_MO_bucket 0 = .ok (.iload_n 0, 1) := by decide +kernel
theorem xnd_MO_bucket_1 : decode xnc_MO_bucket 1 = .ok (.invokestatic 73, 3) := by decide +kernel
theorem xnd_MO_bucket_4 : decode xnc_MO_bucket 4 = .ok (.bipush 25, 2) := by decide +kernel
theorem xnd_MO_bucket_6 : decode xnc_MO_bucket 6 = .ok (.iushr, 1) := by decide +kernel
theorem xnd_MO_bucket_7 : decode xnc_MO_bucket 7 = .ok (.bipush 7, 2) := by decide +kernel
theorem xnd_MO_bucket_9 : decode xnc_MO_bucket 9 = .ok (.iand, 1) := by decide +kernel
theorem xnd_MO_bucket_10 : decode xnc_MO_bucket 10 = .ok (.istore_n 2, 1) := by decide +kernel
theorem xnd_MO_bucket_11 : decode xnc_MO_bucket 11 = .ok (.iload_n 1, 1) := by decide +kernel
theorem xnd_MO_bucket_12 : decode xnc_MO_bucket 12 = .ok (.ifCond .ne 7, 3) := by decide +kernel
theorem xnd_MO_bucket_15 : decode xnc_MO_bucket 15 = .ok (.iload_n 2, 1) := by decide +kernel
theorem xnd_MO_bucket_16 : decode xnc_MO_bucket 16 = .ok (.goto 14, 3) := by decide +kernel
theorem xnd_MO_bucket_19 : decode xnc_MO_bucket 19 = .ok (.iload_n 2, 1) := by decide +kernel
theorem xnd_MO_bucket_20 : decode xnc_MO_bucket 20 = .ok (.iconst 1, 1) := by decide +kernel
theorem xnd_MO_bucket_21 : decode xnc_MO_bucket 21 = .ok (.iload_n 0, 1) := by decide +kernel
theorem xnd_MO_bucket_22 : decode xnc_MO_bucket 22 = .ok (.invokestatic 77, 3) := by decide +kernel
theorem xnd_MO_bucket_25 : decode xnc_MO_bucket 25 = .ok (.bipush 7, 2) := by decide +kernel
theorem xnd_MO_bucket_27 : decode xnc_MO_bucket 27 = .ok (.irem, 1) := by decide +kernel
theorem xnd_MO_bucket_28 : decode xnc_MO_bucket 28 = .ok (.iadd, 1) := by decide +kernel
theorem xnd_MO_bucket_29 : decode xnc_MO_bucket 29 = .ok (.ixor, 1) := by decide +kernel
theorem xnd_MO_bucket_30 : decode xnc_MO_bucket 30 = .ok (.ireturn, 1) := by decide +kernel
theorem xnd_MO_mix_0 : decode xnc_MO_mix 0 = .ok (.iload_n 0, 1) := by decide +kernel
theorem xnd_MO_mix_1 : decode xnc_MO_mix 1 = .ok (.iload_n 0, 1) := by decide +kernel
theorem xnd_MO_mix_2 : decode xnc_MO_mix 2 = .ok (.bipush 15, 2) := by decide +kernel
theorem xnd_MO_mix_4 : decode xnc_MO_mix 4 = .ok (.iushr, 1) := by decide +kernel
theorem xnd_MO_mix_5 : decode xnc_MO_mix 5 = .ok (.ixor, 1) := by decide +kernel
theorem xnd_MO_mix_6 : decode xnc_MO_mix 6 = .ok (.ldc 72, 2) := by decide +kernel
theorem xnd_MO_mix_8 : decode xnc_MO_mix 8 = .ok (.imul, 1) := by decide +kernel
theorem xnd_MO_mix_9 : decode xnc_MO_mix 9 = .ok (.ireturn, 1) := by decide +kernel
theorem xnd_MO_tag_0 : decode xnc_MO_tag 0 = .ok (.iload_n 0, 1) := by decide +kernel
theorem xnd_MO_tag_1 : decode xnc_MO_tag 1 = .ok (.invokestatic 73, 3) := by decide +kernel
theorem xnd_MO_tag_4 : decode xnc_MO_tag 4 = .ok (.bipush 28, 2) := by decide +kernel
theorem xnd_MO_tag_6 : decode xnc_MO_tag 6 = .ok (.iushr, 1) := by decide +kernel
theorem xnd_MO_tag_7 : decode xnc_MO_tag 7 = .ok (.ireturn, 1) := by decide +kernel
theorem xnd_MO_stripe_0 : decode xnc_MO_stripe 0 = .ok (.iload_n 0, 1) := by decide +kernel
theorem xnd_MO_stripe_1 : decode xnc_MO_stripe 1 = .ok (.invokestatic 73, 3) := by decide +kernel
theorem xnd_MO_stripe_4 : decode xnc_MO_stripe 4 = .ok (.bipush 23, 2) := by decide +kernel
theorem xnd_MO_stripe_6 : decode xnc_MO_stripe 6 = .ok (.iushr, 1) := by decide +kernel
theorem xnd_MO_stripe_7 : decode xnc_MO_stripe 7 = .ok (.iconst 3, 1) := by decide +kernel
theorem xnd_MO_stripe_8 : decode xnc_MO_stripe 8 = .ok (.iand, 1) := by decide +kernel
theorem xnd_MO_stripe_9 : decode xnc_MO_stripe 9 = .ok (.ireturn, 1) := by decide +kernel
theorem xnd_MO_where_0 : decode xnc_MO_where 0 = .ok (.aload_n 0, 1) := by decide +kernel
theorem xnd_MO_where_1 : decode xnc_MO_where 1 = .ok (.iload_n 1, 1) := by decide +kernel
theorem xnd_MO_where_2 : decode xnc_MO_where 2 = .ok (.iconst 0, 1) := by decide +kernel
theorem xnd_MO_where_3 : decode xnc_MO_where 3 = .ok (.invokevirtual 87, 3) := by decide +kernel
theorem xnd_MO_where_6 : decode xnc_MO_where 6 = .ok (.istore_n 2, 1) := by decide +kernel
theorem xnd_MO_where_7 : decode xnc_MO_where 7 = .ok (.iload_n 2, 1) := by decide +kernel
theorem xnd_MO_where_8 : decode xnc_MO_where 8 = .ok (.ifCond .lt 7, 3) := by decide +kernel
theorem xnd_MO_where_11 : decode xnc_MO_where 11 = .ok (.iload_n 2, 1) := by decide +kernel
theorem xnd_MO_where_12 : decode xnc_MO_where 12 = .ok (.goto 9, 3) := by decide +kernel
theorem xnd_MO_where_15 : decode xnc_MO_where 15 = .ok (.aload_n 0, 1) := by decide +kernel
theorem xnd_MO_where_16 : decode xnc_MO_where 16 = .ok (.iload_n 1, 1) := by decide +kernel
theorem xnd_MO_where_17 : decode xnc_MO_where 17 = .ok (.iconst 1, 1) := by decide +kernel
theorem xnd_MO_where_18 : decode xnc_MO_where 18 = .ok (.invokevirtual 87, 3) := by decide +kernel
theorem xnd_MO_where_21 : decode xnc_MO_where 21 = .ok (.ireturn, 1) := by decide +kernel
theorem xnd_MO_search_0 : decode xnc_MO_search 0 = .ok (.iload_n 1, 1) := by decide +kernel
theorem xnd_MO_search_1 : decode xnc_MO_search 1 = .ok (.iload_n 2, 1) := by decide +kernel
theorem xnd_MO_search_2 : decode xnc_MO_search 2 = .ok (.invokestatic 80, 3) := by decide +kernel
theorem xnd_MO_search_5 : decode xnc_MO_search 5 = .ok (.istore_n 3, 1) := by decide +kernel
theorem xnd_MO_search_6 : decode xnc_MO_search 6 = .ok (.iconst 0, 1) := by decide +kernel
theorem xnd_MO_search_7 : decode xnc_MO_search 7 = .ok (.istore 4, 2) := by decide +kernel
theorem xnd_MO_search_9 : decode xnc_MO_search 9 = .ok (.iload 4, 2) := by decide +kernel
theorem xnd_MO_search_11 : decode xnc_MO_search 11 = .ok (.aload_n 0, 1) := by decide +kernel
theorem xnd_MO_search_12 : decode xnc_MO_search 12 = .ok (.getfield 69, 3) := by decide +kernel
theorem xnd_MO_search_15 : decode xnc_MO_search 15 = .ok (.if_icmp .ge 53, 3) := by decide +kernel
theorem xnd_MO_search_18 : decode xnc_MO_search 18 = .ok (.aload_n 0, 1) := by decide +kernel
theorem xnd_MO_search_19 : decode xnc_MO_search 19 = .ok (.getfield 7, 3) := by decide +kernel
theorem xnd_MO_search_22 : decode xnc_MO_search 22 = .ok (.aload_n 0, 1) := by decide +kernel
theorem xnd_MO_search_23 : decode xnc_MO_search 23 = .ok (.getfield 69, 3) := by decide +kernel
theorem xnd_MO_search_26 : decode xnc_MO_search 26 = .ok (.iload_n 3, 1) := by decide +kernel
theorem xnd_MO_search_27 : decode xnc_MO_search 27 = .ok (.imul, 1) := by decide +kernel
theorem xnd_MO_search_28 : decode xnc_MO_search 28 = .ok (.iload 4, 2) := by decide +kernel
theorem xnd_MO_search_30 : decode xnc_MO_search 30 = .ok (.iadd, 1) := by decide +kernel
theorem xnd_MO_search_31 : decode xnc_MO_search 31 = .ok (.iaload, 1) := by decide +kernel
theorem xnd_MO_search_32 : decode xnc_MO_search 32 = .ok (.iconst 1, 1) := by decide +kernel
theorem xnd_MO_search_33 : decode xnc_MO_search 33 = .ok (.isub, 1) := by decide +kernel
theorem xnd_MO_search_34 : decode xnc_MO_search 34 = .ok (.istore 5, 2) := by decide +kernel
theorem xnd_MO_search_36 : decode xnc_MO_search 36 = .ok (.iload 5, 2) := by decide +kernel
theorem xnd_MO_search_38 : decode xnc_MO_search 38 = .ok (.ifCond .lt 24, 3) := by decide +kernel
theorem xnd_MO_search_41 : decode xnc_MO_search 41 = .ok (.aload_n 0, 1) := by decide +kernel
theorem xnd_MO_search_42 : decode xnc_MO_search 42 = .ok (.getfield 17, 3) := by decide +kernel
theorem xnd_MO_search_45 : decode xnc_MO_search 45 = .ok (.iload 5, 2) := by decide +kernel
theorem xnd_MO_search_47 : decode xnc_MO_search 47 = .ok (.iaload, 1) := by decide +kernel
theorem xnd_MO_search_48 : decode xnc_MO_search 48 = .ok (.iload_n 1, 1) := by decide +kernel
theorem xnd_MO_search_49 : decode xnc_MO_search 49 = .ok (.if_icmp .ne 13, 3) := by decide +kernel
theorem xnd_MO_search_52 : decode xnc_MO_search 52 = .ok (.aload_n 0, 1) := by decide +kernel
theorem xnd_MO_search_53 : decode xnc_MO_search 53 = .ok (.getfield 69, 3) := by decide +kernel
theorem xnd_MO_search_56 : decode xnc_MO_search 56 = .ok (.iload_n 3, 1) := by decide +kernel
theorem xnd_MO_search_57 : decode xnc_MO_search 57 = .ok (.imul, 1) := by decide +kernel
theorem xnd_MO_search_58 : decode xnc_MO_search 58 = .ok (.iload 4, 2) := by decide +kernel
theorem xnd_MO_search_60 : decode xnc_MO_search 60 = .ok (.iadd, 1) := by decide +kernel
theorem xnd_MO_search_61 : decode xnc_MO_search 61 = .ok (.ireturn, 1) := by decide +kernel
theorem xnd_MO_search_62 : decode xnc_MO_search 62 = .ok (.iinc 4 1, 3) := by decide +kernel
theorem xnd_MO_search_65 : decode xnc_MO_search 65 = .ok (.goto (-56), 3) := by decide +kernel
theorem xnd_MO_search_68 : decode xnc_MO_search 68 = .ok (.iconst (-1), 1) := by decide +kernel
theorem xnd_MO_search_69 : decode xnc_MO_search 69 = .ok (.ireturn, 1) := by decide +kernel
theorem xnd_MO_write_0 : decode xnc_MO_write 0 = .ok (.aload_n 0, 1) := by decide +kernel
theorem xnd_MO_write_1 : decode xnc_MO_write 1 = .ok (.getfield 99, 3) := by decide +kernel
theorem xnd_MO_write_4 : decode xnc_MO_write 4 = .ok (.ifCond .gt 25, 3) := by decide +kernel
theorem xnd_MO_write_7 : decode xnc_MO_write 7 = .ok (.iload_n 1, 1) := by decide +kernel
theorem xnd_MO_write_8 : decode xnc_MO_write 8 = .ok (.ifCond .lt 21, 3) := by decide +kernel
theorem xnd_MO_write_11 : decode xnc_MO_write 11 = .ok (.iload_n 1, 1) := by decide +kernel
theorem xnd_MO_write_12 : decode xnc_MO_write 12 = .ok (.iconst 4, 1) := by decide +kernel
theorem xnd_MO_write_13 : decode xnc_MO_write 13 = .ok (.if_icmp .gt 16, 3) := by decide +kernel
theorem xnd_MO_write_16 : decode xnc_MO_write 16 = .ok (.iload 4, 2) := by decide +kernel
theorem xnd_MO_write_18 : decode xnc_MO_write 18 = .ok (.ifCond .lt 11, 3) := by decide +kernel
theorem xnd_MO_write_21 : decode xnc_MO_write 21 = .ok (.iload 4, 2) := by decide +kernel
theorem xnd_MO_write_23 : decode xnc_MO_write 23 = .ok (.sipush 1000, 3) := by decide +kernel
theorem xnd_MO_write_26 : decode xnc_MO_write 26 = .ok (.if_icmp .le 5, 3) := by decide +kernel
theorem xnd_MO_write_29 : decode xnc_MO_write 29 = .ok (.iconst 0, 1) := by decide +kernel
theorem xnd_MO_write_30 : decode xnc_MO_write 30 = .ok (.ireturn, 1) := by decide +kernel
theorem xnd_MO_write_31 : decode xnc_MO_write 31 = .ok (.aload_n 0, 1) := by decide +kernel
theorem xnd_MO_write_32 : decode xnc_MO_write 32 = .ok (.iload_n 1, 1) := by decide +kernel
theorem xnd_MO_write_33 : decode xnc_MO_write 33 = .ok (.putfield 102, 3) := by decide +kernel
theorem xnd_MO_write_36 : decode xnc_MO_write 36 = .ok (.aload_n 0, 1) := by decide +kernel
theorem xnd_MO_write_37 : decode xnc_MO_write 37 = .ok (.iload_n 2, 1) := by decide +kernel
theorem xnd_MO_write_38 : decode xnc_MO_write 38 = .ok (.putfield 105, 3) := by decide +kernel
theorem xnd_MO_write_41 : decode xnc_MO_write 41 = .ok (.aload_n 0, 1) := by decide +kernel
theorem xnd_MO_write_42 : decode xnc_MO_write 42 = .ok (.iload_n 3, 1) := by decide +kernel
theorem xnd_MO_write_43 : decode xnc_MO_write 43 = .ok (.putfield 108, 3) := by decide +kernel
theorem xnd_MO_write_46 : decode xnc_MO_write 46 = .ok (.aload_n 0, 1) := by decide +kernel
theorem xnd_MO_write_47 : decode xnc_MO_write 47 = .ok (.iload 4, 2) := by decide +kernel
theorem xnd_MO_write_49 : decode xnc_MO_write 49 = .ok (.putfield 111, 3) := by decide +kernel
theorem xnd_MO_write_52 : decode xnc_MO_write 52 = .ok (.aload_n 0, 1) := by decide +kernel
theorem xnd_MO_write_53 : decode xnc_MO_write 53 = .ok (.iload 5, 2) := by decide +kernel
theorem xnd_MO_write_55 : decode xnc_MO_write 55 = .ok (.putfield 114, 3) := by decide +kernel
theorem xnd_MO_write_58 : decode xnc_MO_write 58 = .ok (.aload_n 0, 1) := by decide +kernel
theorem xnd_MO_write_59 : decode xnc_MO_write 59 = .ok (.iconst 1, 1) := by decide +kernel
theorem xnd_MO_write_60 : decode xnc_MO_write 60 = .ok (.putfield 99, 3) := by decide +kernel
theorem xnd_MO_write_63 : decode xnc_MO_write 63 = .ok (.iconst 1, 1) := by decide +kernel
theorem xnd_MO_write_64 : decode xnc_MO_write 64 = .ok (.ireturn, 1) := by decide +kernel
theorem xnd_MO_work_0 : decode xnc_MO_work 0 = .ok (.iload_n 1, 1) := by decide +kernel
theorem xnd_MO_work_1 : decode xnc_MO_work 1 = .ok (.iconst 1, 1) := by decide +kernel
theorem xnd_MO_work_2 : decode xnc_MO_work 2 = .ok (.if_icmp .lt 9, 3) := by decide +kernel
theorem xnd_MO_work_5 : decode xnc_MO_work 5 = .ok (.iload_n 1, 1) := by decide +kernel
theorem xnd_MO_work_6 : decode xnc_MO_work 6 = .ok (.bipush 50, 2) := by decide +kernel
theorem xnd_MO_work_8 : decode xnc_MO_work 8 = .ok (.if_icmp .le 5, 3) := by decide +kernel
theorem xnd_MO_work_11 : decode xnc_MO_work 11 = .ok (.iconst 0, 1) := by decide +kernel
theorem xnd_MO_work_12 : decode xnc_MO_work 12 = .ok (.ireturn, 1) := by decide +kernel
theorem xnd_MO_work_13 : decode xnc_MO_work 13 = .ok (.iconst 0, 1) := by decide +kernel
theorem xnd_MO_work_14 : decode xnc_MO_work 14 = .ok (.istore_n 2, 1) := by decide +kernel
theorem xnd_MO_work_15 : decode xnc_MO_work 15 = .ok (.iload_n 2, 1) := by decide +kernel
theorem xnd_MO_work_16 : decode xnc_MO_work 16 = .ok (.iload_n 1, 1) := by decide +kernel
theorem xnd_MO_work_17 : decode xnc_MO_work 17 = .ok (.if_icmp .ge 20, 3) := by decide +kernel
theorem xnd_MO_work_20 : decode xnc_MO_work 20 = .ok (.aload_n 0, 1) := by decide +kernel
theorem xnd_MO_work_21 : decode xnc_MO_work 21 = .ok (.getfield 99, 3) := by decide +kernel
theorem xnd_MO_work_24 : decode xnc_MO_work 24 = .ok (.ifCond .le 13, 3) := by decide +kernel
theorem xnd_MO_work_27 : decode xnc_MO_work 27 = .ok (.aload_n 0, 1) := by decide +kernel
theorem xnd_MO_work_28 : decode xnc_MO_work 28 = .ok (.invokevirtual 117, 3) := by decide +kernel
theorem xnd_MO_work_31 : decode xnc_MO_work 31 = .ok (.iinc 2 1, 3) := by decide +kernel
theorem xnd_MO_work_34 : decode xnc_MO_work 34 = .ok (.goto (-19), 3) := by decide +kernel
theorem xnd_MO_work_37 : decode xnc_MO_work 37 = .ok (.iload_n 2, 1) := by decide +kernel
theorem xnd_MO_work_38 : decode xnc_MO_work 38 = .ok (.ireturn, 1) := by decide +kernel
theorem xnd_MO_one_0 : decode xnc_MO_one 0 = .ok (.aload_n 0, 1) := by decide +kernel
theorem xnd_MO_one_1 : decode xnc_MO_one 1 = .ok (.getfield 99, 3) := by decide +kernel
theorem xnd_MO_one_4 : decode xnc_MO_one 4 = .ok (.tableswitch 141 1 7 #[44, 51, 88, 120, 127, 134, 134], 44) := by decide +kernel
theorem xnd_MO_one_48 : decode xnc_MO_one 48 = .ok (.aload_n 0, 1) := by decide +kernel
theorem xnd_MO_one_49 : decode xnc_MO_one 49 = .ok (.invokevirtual 120, 3) := by decide +kernel
theorem xnd_MO_one_52 : decode xnc_MO_one 52 = .ok (.goto 97, 3) := by decide +kernel
theorem xnd_MO_one_55 : decode xnc_MO_one 55 = .ok (.aload_n 0, 1) := by decide +kernel
theorem xnd_MO_one_56 : decode xnc_MO_one 56 = .ok (.getfield 32, 3) := by decide +kernel
theorem xnd_MO_one_59 : decode xnc_MO_one 59 = .ok (.aload_n 0, 1) := by decide +kernel
theorem xnd_MO_one_60 : decode xnc_MO_one 60 = .ok (.getfield 105, 3) := by decide +kernel
theorem xnd_MO_one_63 : decode xnc_MO_one 63 = .ok (.invokestatic 84, 3) := by decide +kernel
theorem xnd_MO_one_66 : decode xnc_MO_one 66 = .ok (.dup2, 1) := by decide +kernel
theorem xnd_MO_one_67 : decode xnc_MO_one 67 = .ok (.iaload, 1) := by decide +kernel
theorem xnd_MO_one_68 : decode xnc_MO_one 68 = .ok (.iconst 1, 1) := by decide +kernel
theorem xnd_MO_one_69 : decode xnc_MO_one 69 = .ok (.iadd, 1) := by decide +kernel
theorem xnd_MO_one_70 : decode xnc_MO_one 70 = .ok (.iastore, 1) := by decide +kernel
theorem xnd_MO_one_71 : decode xnc_MO_one 71 = .ok (.aload_n 0, 1) := by decide +kernel
theorem xnd_MO_one_72 : decode xnc_MO_one 72 = .ok (.getfield 20, 3) := by decide +kernel
theorem xnd_MO_one_75 : decode xnc_MO_one 75 = .ok (.aload_n 0, 1) := by decide +kernel
theorem xnd_MO_one_76 : decode xnc_MO_one 76 = .ok (.getfield 123, 3) := by decide +kernel
theorem xnd_MO_one_79 : decode xnc_MO_one 79 = .ok (.aload_n 0, 1) := by decide +kernel
theorem xnd_MO_one_80 : decode xnc_MO_one 80 = .ok (.getfield 108, 3) := by decide +kernel
theorem xnd_MO_one_83 : decode xnc_MO_one 83 = .ok (.iastore, 1) := by decide +kernel
theorem xnd_MO_one_84 : decode xnc_MO_one 84 = .ok (.aload_n 0, 1) := by decide +kernel
theorem xnd_MO_one_85 : decode xnc_MO_one 85 = .ok (.iconst 3, 1) := by decide +kernel
theorem xnd_MO_one_86 : decode xnc_MO_one 86 = .ok (.putfield 99, 3) := by decide +kernel
theorem xnd_MO_one_89 : decode xnc_MO_one 89 = .ok (.goto 60, 3) := by decide +kernel
theorem xnd_MO_one_92 : decode xnc_MO_one 92 = .ok (.aload_n 0, 1) := by decide +kernel
theorem xnd_MO_one_93 : decode xnc_MO_one 93 = .ok (.aload_n 0, 1) := by decide +kernel
theorem xnd_MO_one_94 : decode xnc_MO_one 94 = .ok (.getfield 123, 3) := by decide +kernel
theorem xnd_MO_one_97 : decode xnc_MO_one 97 = .ok (.invokevirtual 126, 3) := by decide +kernel
theorem xnd_MO_one_100 : decode xnc_MO_one 100 = .ok (.aload_n 0, 1) := by decide +kernel
theorem xnd_MO_one_101 : decode xnc_MO_one 101 = .ok (.getfield 32, 3) := by decide +kernel
theorem xnd_MO_one_104 : decode xnc_MO_one 104 = .ok (.aload_n 0, 1) := by decide +kernel
theorem xnd_MO_one_105 : decode xnc_MO_one 105 = .ok (.getfield 105, 3) := by decide +kernel
theorem xnd_MO_one_108 : decode xnc_MO_one 108 = .ok (.invokestatic 84, 3) := by decide +kernel
theorem xnd_MO_one_111 : decode xnc_MO_one 111 = .ok (.dup2, 1) := by decide +kernel
theorem xnd_MO_one_112 : decode xnc_MO_one 112 = .ok (.iaload, 1) := by decide +kernel
theorem xnd_MO_one_113 : decode xnc_MO_one 113 = .ok (.iconst 1, 1) := by decide +kernel
theorem xnd_MO_one_114 : decode xnc_MO_one 114 = .ok (.iadd, 1) := by decide +kernel
theorem xnd_MO_one_115 : decode xnc_MO_one 115 = .ok (.iastore, 1) := by decide +kernel
theorem xnd_MO_one_116 : decode xnc_MO_one 116 = .ok (.aload_n 0, 1) := by decide +kernel
theorem xnd_MO_one_117 : decode xnc_MO_one 117 = .ok (.iconst 1, 1) := by decide +kernel
theorem xnd_MO_one_118 : decode xnc_MO_one 118 = .ok (.invokevirtual 130, 3) := by decide +kernel
theorem xnd_MO_one_121 : decode xnc_MO_one 121 = .ok (.goto 28, 3) := by decide +kernel
theorem xnd_MO_one_124 : decode xnc_MO_one 124 = .ok (.aload_n 0, 1) := by decide +kernel
theorem xnd_MO_one_125 : decode xnc_MO_one 125 = .ok (.invokevirtual 133, 3) := by decide +kernel
theorem xnd_MO_one_128 : decode xnc_MO_one 128 = .ok (.goto 21, 3) := by decide +kernel
theorem xnd_MO_one_131 : decode xnc_MO_one 131 = .ok (.aload_n 0, 1) := by decide +kernel
theorem xnd_MO_one_132 : decode xnc_MO_one 132 = .ok (.invokevirtual 136, 3) := by decide +kernel
theorem xnd_MO_one_135 : decode xnc_MO_one 135 = .ok (.goto 14, 3) := by decide +kernel
theorem xnd_MO_one_138 : decode xnc_MO_one 138 = .ok (.aload_n 0, 1) := by decide +kernel
theorem xnd_MO_one_139 : decode xnc_MO_one 139 = .ok (.invokevirtual 139, 3) := by decide +kernel
theorem xnd_MO_one_142 : decode xnc_MO_one 142 = .ok (.goto 7, 3) := by decide +kernel
theorem xnd_MO_one_145 : decode xnc_MO_one 145 = .ok (.aload_n 0, 1) := by decide +kernel
theorem xnd_MO_one_146 : decode xnc_MO_one 146 = .ok (.invokevirtual 142, 3) := by decide +kernel
theorem xnd_MO_one_149 : decode xnc_MO_one 149 = .ok (.return_, 1) := by decide +kernel
theorem xnd_MO_begin_0 : decode xnc_MO_begin 0 = .ok (.aload_n 0, 1) := by decide +kernel
theorem xnd_MO_begin_1 : decode xnc_MO_begin 1 = .ok (.aload_n 0, 1) := by decide +kernel
theorem xnd_MO_begin_2 : decode xnc_MO_begin 2 = .ok (.getfield 105, 3) := by decide +kernel
theorem xnd_MO_begin_5 : decode xnc_MO_begin 5 = .ok (.invokevirtual 148, 3) := by decide +kernel
theorem xnd_MO_begin_8 : decode xnc_MO_begin 8 = .ok (.istore_n 1, 1) := by decide +kernel
theorem xnd_MO_begin_9 : decode xnc_MO_begin 9 = .ok (.aload_n 0, 1) := by decide +kernel
theorem xnd_MO_begin_10 : decode xnc_MO_begin 10 = .ok (.iload_n 1, 1) := by decide +kernel
theorem xnd_MO_begin_11 : decode xnc_MO_begin 11 = .ok (.ifCond .ge 7, 3) := by decide +kernel
theorem xnd_MO_begin_14 : decode xnc_MO_begin 14 = .ok (.iconst (-1), 1) := by decide +kernel
theorem xnd_MO_begin_15 : decode xnc_MO_begin 15 = .ok (.goto 11, 3) := by decide +kernel
theorem xnd_MO_begin_18 : decode xnc_MO_begin 18 = .ok (.aload_n 0, 1) := by decide +kernel
theorem xnd_MO_begin_19 : decode xnc_MO_begin 19 = .ok (.getfield 7, 3) := by decide +kernel
theorem xnd_MO_begin_22 : decode xnc_MO_begin 22 = .ok (.iload_n 1, 1) := by decide +kernel
theorem xnd_MO_begin_23 : decode xnc_MO_begin 23 = .ok (.iaload, 1) := by decide +kernel
theorem xnd_MO_begin_24 : decode xnc_MO_begin 24 = .ok (.iconst 1, 1) := by decide +kernel
theorem xnd_MO_begin_25 : decode xnc_MO_begin 25 = .ok (.isub, 1) := by decide +kernel
theorem xnd_MO_begin_26 : decode xnc_MO_begin 26 = .ok (.putfield 123, 3) := by decide +kernel
theorem xnd_MO_begin_29 : decode xnc_MO_begin 29 = .ok (.aload_n 0, 1) := by decide +kernel
theorem xnd_MO_begin_30 : decode xnc_MO_begin 30 = .ok (.getfield 123, 3) := by decide +kernel
theorem xnd_MO_begin_33 : decode xnc_MO_begin 33 = .ok (.ifCond .lt 42, 3) := by decide +kernel
theorem xnd_MO_begin_36 : decode xnc_MO_begin 36 = .ok (.aload_n 0, 1) := by decide +kernel
theorem xnd_MO_begin_37 : decode xnc_MO_begin 37 = .ok (.aload_n 0, 1) := by decide +kernel
theorem xnd_MO_begin_38 : decode xnc_MO_begin 38 = .ok (.getfield 26, 3) := by decide +kernel
theorem xnd_MO_begin_41 : decode xnc_MO_begin 41 = .ok (.aload_n 0, 1) := by decide +kernel
theorem xnd_MO_begin_42 : decode xnc_MO_begin 42 = .ok (.getfield 123, 3) := by decide +kernel
theorem xnd_MO_begin_45 : decode xnc_MO_begin 45 = .ok (.iaload, 1) := by decide +kernel
theorem xnd_MO_begin_46 : decode xnc_MO_begin 46 = .ok (.invokevirtual 151, 3) := by decide +kernel
theorem xnd_MO_begin_49 : decode xnc_MO_begin 49 = .ok (.ifCond .eq 26, 3) := by decide +kernel
theorem xnd_MO_begin_52 : decode xnc_MO_begin 52 = .ok (.aload_n 0, 1) := by decide +kernel
theorem xnd_MO_begin_53 : decode xnc_MO_begin 53 = .ok (.aload_n 0, 1) := by decide +kernel
theorem xnd_MO_begin_54 : decode xnc_MO_begin 54 = .ok (.getfield 123, 3) := by decide +kernel
theorem xnd_MO_begin_57 : decode xnc_MO_begin 57 = .ok (.invokevirtual 155, 3) := by decide +kernel
theorem xnd_MO_begin_60 : decode xnc_MO_begin 60 = .ok (.aload_n 0, 1) := by decide +kernel
theorem xnd_MO_begin_61 : decode xnc_MO_begin 61 = .ok (.dup, 1) := by decide +kernel
theorem xnd_MO_begin_62 : decode xnc_MO_begin 62 = .ok (.getfield 158, 3) := by decide +kernel
theorem xnd_MO_begin_65 : decode xnc_MO_begin 65 = .ok (.iconst 1, 1) := by decide +kernel
theorem xnd_MO_begin_66 : decode xnc_MO_begin 66 = .ok (.iadd, 1) := by decide +kernel
theorem xnd_MO_begin_67 : decode xnc_MO_begin 67 = .ok (.putfield 158, 3) := by decide +kernel
theorem xnd_MO_begin_70 : decode xnc_MO_begin 70 = .ok (.aload_n 0, 1) := by decide +kernel
theorem xnd_MO_begin_71 : decode xnc_MO_begin 71 = .ok (.iconst (-1), 1) := by decide +kernel
theorem xnd_MO_begin_72 : decode xnc_MO_begin 72 = .ok (.putfield 123, 3) := by decide +kernel
theorem xnd_MO_begin_75 : decode xnc_MO_begin 75 = .ok (.aload_n 0, 1) := by decide +kernel
theorem xnd_MO_begin_76 : decode xnc_MO_begin 76 = .ok (.getfield 123, 3) := by decide +kernel
theorem xnd_MO_begin_79 : decode xnc_MO_begin 79 = .ok (.ifCond .lt 7, 3) := by decide +kernel
theorem xnd_MO_begin_82 : decode xnc_MO_begin 82 = .ok (.iconst 1, 1) := by decide +kernel
theorem xnd_MO_begin_83 : decode xnc_MO_begin 83 = .ok (.goto 4, 3) := by decide +kernel
theorem xnd_MO_begin_86 : decode xnc_MO_begin 86 = .ok (.iconst 0, 1) := by decide +kernel
theorem xnd_MO_begin_87 : decode xnc_MO_begin 87 = .ok (.istore_n 2, 1) := by decide +kernel
theorem xnd_MO_begin_88 : decode xnc_MO_begin 88 = .ok (.aload_n 0, 1) := by decide +kernel
theorem xnd_MO_begin_89 : decode xnc_MO_begin 89 = .ok (.getfield 102, 3) := by decide +kernel
theorem xnd_MO_begin_92 : decode xnc_MO_begin 92 = .ok (.ifCond .ne 7, 3) := by decide +kernel
theorem xnd_MO_begin_95 : decode xnc_MO_begin 95 = .ok (.iload_n 2, 1) := by decide +kernel
theorem xnd_MO_begin_96 : decode xnc_MO_begin 96 = .ok (.ifCond .ne 43, 3) := by decide +kernel
theorem xnd_MO_begin_99 : decode xnc_MO_begin 99 = .ok (.aload_n 0, 1) := by decide +kernel
theorem xnd_MO_begin_100 : decode xnc_MO_begin 100 = .ok (.getfield 102, 3) := by decide +kernel
theorem xnd_MO_begin_103 : decode xnc_MO_begin 103 = .ok (.iconst 2, 1) := by decide +kernel
theorem xnd_MO_begin_104 : decode xnc_MO_begin 104 = .ok (.if_icmp .ne 7, 3) := by decide +kernel
theorem xnd_MO_begin_107 : decode xnc_MO_begin 107 = .ok (.iload_n 2, 1) := by decide +kernel
theorem xnd_MO_begin_108 : decode xnc_MO_begin 108 = .ok (.ifCond .ne 31, 3) := by decide +kernel
theorem xnd_MO_begin_111 : decode xnc_MO_begin 111 = .ok (.aload_n 0, 1) := by decide +kernel
theorem xnd_MO_begin_112 : decode xnc_MO_begin 112 = .ok (.getfield 102, 3) := by decide +kernel
theorem xnd_MO_begin_115 : decode xnc_MO_begin 115 = .ok (.iconst 3, 1) := by decide +kernel
theorem xnd_MO_begin_116 : decode xnc_MO_begin 116 = .ok (.if_icmp .ne 31, 3) := by decide +kernel
theorem xnd_MO_begin_119 : decode xnc_MO_begin 119 = .ok (.iload_n 2, 1) := by decide +kernel
theorem xnd_MO_begin_120 : decode xnc_MO_begin 120 = .ok (.ifCond .eq 27, 3) := by decide +kernel
theorem xnd_MO_begin_123 : decode xnc_MO_begin 123 = .ok (.aload_n 0, 1) := by decide +kernel
theorem xnd_MO_begin_124 : decode xnc_MO_begin 124 = .ok (.getfield 23, 3) := by decide +kernel
theorem xnd_MO_begin_127 : decode xnc_MO_begin 127 = .ok (.aload_n 0, 1) := by decide +kernel
theorem xnd_MO_begin_128 : decode xnc_MO_begin 128 = .ok (.getfield 123, 3) := by decide +kernel
theorem xnd_MO_begin_131 : decode xnc_MO_begin 131 = .ok (.iaload, 1) := by decide +kernel
theorem xnd_MO_begin_132 : decode xnc_MO_begin 132 = .ok (.aload_n 0, 1) := by decide +kernel
theorem xnd_MO_begin_133 : decode xnc_MO_begin 133 = .ok (.getfield 114, 3) := by decide +kernel
theorem xnd_MO_begin_136 : decode xnc_MO_begin 136 = .ok (.if_icmp .ne 11, 3) := by decide +kernel
theorem xnd_MO_begin_139 : decode xnc_MO_begin 139 = .ok (.aload_n 0, 1) := by decide +kernel
theorem xnd_MO_begin_140 : decode xnc_MO_begin 140 = .ok (.iconst 2, 1) := by decide +kernel
theorem xnd_MO_begin_141 : decode xnc_MO_begin 141 = .ok (.putfield 99, 3) := by decide +kernel
theorem xnd_MO_begin_144 : decode xnc_MO_begin 144 = .ok (.goto 103, 3) := by decide +kernel
theorem xnd_MO_begin_147 : decode xnc_MO_begin 147 = .ok (.aload_n 0, 1) := by decide +kernel
theorem xnd_MO_begin_148 : decode xnc_MO_begin 148 = .ok (.getfield 102, 3) := by decide +kernel
theorem xnd_MO_begin_151 : decode xnc_MO_begin 151 = .ok (.iconst 2, 1) := by decide +kernel
theorem xnd_MO_begin_152 : decode xnc_MO_begin 152 = .ok (.if_icmp .ge 38, 3) := by decide +kernel
theorem xnd_MO_begin_155 : decode xnc_MO_begin 155 = .ok (.iload_n 2, 1) := by decide +kernel
theorem xnd_MO_begin_156 : decode xnc_MO_begin 156 = .ok (.ifCond .eq 11, 3) := by decide +kernel
theorem xnd_MO_begin_159 : decode xnc_MO_begin 159 = .ok (.aload_n 0, 1) := by decide +kernel
theorem xnd_MO_begin_160 : decode xnc_MO_begin 160 = .ok (.iconst 2, 1) := by decide +kernel
theorem xnd_MO_begin_161 : decode xnc_MO_begin 161 = .ok (.invokevirtual 130, 3) := by decide +kernel
theorem xnd_MO_begin_164 : decode xnc_MO_begin 164 = .ok (.goto 83, 3) := by decide +kernel
theorem xnd_MO_begin_167 : decode xnc_MO_begin 167 = .ok (.aload_n 0, 1) := by decide +kernel
theorem xnd_MO_begin_168 : decode xnc_MO_begin 168 = .ok (.aload_n 0, 1) := by decide +kernel
theorem xnd_MO_begin_169 : decode xnc_MO_begin 169 = .ok (.invokevirtual 161, 3) := by decide +kernel
theorem xnd_MO_begin_172 : decode xnc_MO_begin 172 = .ok (.aload_n 0, 1) := by decide +kernel
theorem xnd_MO_begin_173 : decode xnc_MO_begin 173 = .ok (.getfield 66, 3) := by decide +kernel
theorem xnd_MO_begin_176 : decode xnc_MO_begin 176 = .ok (.if_icmp .ne 7, 3) := by decide +kernel
theorem xnd_MO_begin_179 : decode xnc_MO_begin 179 = .ok (.iconst 4, 1) := by decide +kernel
theorem xnd_MO_begin_180 : decode xnc_MO_begin 180 = .ok (.goto 4, 3) := by decide +kernel
theorem xnd_MO_begin_183 : decode xnc_MO_begin 183 = .ok (.iconst 5, 1) := by decide +kernel
theorem xnd_MO_begin_184 : decode xnc_MO_begin 184 = .ok (.putfield 99, 3) := by decide +kernel
theorem xnd_MO_begin_187 : decode xnc_MO_begin 187 = .ok (.goto 60, 3) := by decide +kernel
theorem xnd_MO_begin_190 : decode xnc_MO_begin 190 = .ok (.aload_n 0, 1) := by decide +kernel
theorem xnd_MO_begin_191 : decode xnc_MO_begin 191 = .ok (.getfield 102, 3) := by decide +kernel
theorem xnd_MO_begin_194 : decode xnc_MO_begin 194 = .ok (.iconst 2, 1) := by decide +kernel
theorem xnd_MO_begin_195 : decode xnc_MO_begin 195 = .ok (.if_icmp .ne 11, 3) := by decide +kernel
theorem xnd_MO_begin_198 : decode xnc_MO_begin 198 = .ok (.aload_n 0, 1) := by decide +kernel
theorem xnd_MO_begin_199 : decode xnc_MO_begin 199 = .ok (.iconst 2, 1) := by decide +kernel
theorem xnd_MO_begin_200 : decode xnc_MO_begin 200 = .ok (.invokevirtual 130, 3) := by decide +kernel
theorem xnd_MO_begin_203 : decode xnc_MO_begin 203 = .ok (.goto 44, 3) := by decide +kernel
theorem xnd_MO_begin_206 : decode xnc_MO_begin 206 = .ok (.iload_n 2, 1) := by decide +kernel
theorem xnd_MO_begin_207 : decode xnc_MO_begin 207 = .ok (.ifCond .ne 11, 3) := by decide +kernel
theorem xnd_MO_begin_210 : decode xnc_MO_begin 210 = .ok (.aload_n 0, 1) := by decide +kernel
theorem xnd_MO_begin_211 : decode xnc_MO_begin 211 = .ok (.iconst 4, 1) := by decide +kernel
theorem xnd_MO_begin_212 : decode xnc_MO_begin 212 = .ok (.invokevirtual 130, 3) := by decide +kernel
theorem xnd_MO_begin_215 : decode xnc_MO_begin 215 = .ok (.goto 32, 3) := by decide +kernel
theorem xnd_MO_begin_218 : decode xnc_MO_begin 218 = .ok (.aload_n 0, 1) := by decide +kernel
theorem xnd_MO_begin_219 : decode xnc_MO_begin 219 = .ok (.getfield 102, 3) := by decide +kernel
theorem xnd_MO_begin_222 : decode xnc_MO_begin 222 = .ok (.iconst 3, 1) := by decide +kernel
theorem xnd_MO_begin_223 : decode xnc_MO_begin 223 = .ok (.if_icmp .ne 11, 3) := by decide +kernel
theorem xnd_MO_begin_226 : decode xnc_MO_begin 226 = .ok (.aload_n 0, 1) := by decide +kernel
theorem xnd_MO_begin_227 : decode xnc_MO_begin 227 = .ok (.iconst 3, 1) := by decide +kernel
theorem xnd_MO_begin_228 : decode xnc_MO_begin 228 = .ok (.invokevirtual 130, 3) := by decide +kernel
theorem xnd_MO_begin_231 : decode xnc_MO_begin 231 = .ok (.goto 16, 3) := by decide +kernel
theorem xnd_MO_begin_234 : decode xnc_MO_begin 234 = .ok (.aload_n 0, 1) := by decide +kernel
theorem xnd_MO_begin_235 : decode xnc_MO_begin 235 = .ok (.aload_n 0, 1) := by decide +kernel
theorem xnd_MO_begin_236 : decode xnc_MO_begin 236 = .ok (.getfield 123, 3) := by decide +kernel
theorem xnd_MO_begin_239 : decode xnc_MO_begin 239 = .ok (.invokevirtual 155, 3) := by decide +kernel
theorem xnd_MO_begin_242 : decode xnc_MO_begin 242 = .ok (.aload_n 0, 1) := by decide +kernel
theorem xnd_MO_begin_243 : decode xnc_MO_begin 243 = .ok (.iconst 5, 1) := by decide +kernel
theorem xnd_MO_begin_244 : decode xnc_MO_begin 244 = .ok (.invokevirtual 130, 3) := by decide +kernel
theorem xnd_MO_begin_247 : decode xnc_MO_begin 247 = .ok (.return_, 1) := by decide +kernel
theorem xnd_MO_lookBoth_0 : decode xnc_MO_lookBoth 0 = .ok (.aload_n 0, 1) := by decide +kernel
theorem xnd_MO_lookBoth_1 : decode xnc_MO_lookBoth 1 = .ok (.iload_n 1, 1) := by decide +kernel
theorem xnd_MO_lookBoth_2 : decode xnc_MO_lookBoth 2 = .ok (.iconst 0, 1) := by decide +kernel
theorem xnd_MO_lookBoth_3 : decode xnc_MO_lookBoth 3 = .ok (.invokevirtual 93, 3) := by decide +kernel
theorem xnd_MO_lookBoth_6 : decode xnc_MO_lookBoth 6 = .ok (.istore_n 2, 1) := by decide +kernel
theorem xnd_MO_lookBoth_7 : decode xnc_MO_lookBoth 7 = .ok (.iload_n 2, 1) := by decide +kernel
theorem xnd_MO_lookBoth_8 : decode xnc_MO_lookBoth 8 = .ok (.ifCond .lt 7, 3) := by decide +kernel
theorem xnd_MO_lookBoth_11 : decode xnc_MO_lookBoth 11 = .ok (.iload_n 2, 1) := by decide +kernel
theorem xnd_MO_lookBoth_12 : decode xnc_MO_lookBoth 12 = .ok (.goto 9, 3) := by decide +kernel
theorem xnd_MO_lookBoth_15 : decode xnc_MO_lookBoth 15 = .ok (.aload_n 0, 1) := by decide +kernel
theorem xnd_MO_lookBoth_16 : decode xnc_MO_lookBoth 16 = .ok (.iload_n 1, 1) := by decide +kernel
theorem xnd_MO_lookBoth_17 : decode xnc_MO_lookBoth 17 = .ok (.iconst 1, 1) := by decide +kernel
theorem xnd_MO_lookBoth_18 : decode xnc_MO_lookBoth 18 = .ok (.invokevirtual 93, 3) := by decide +kernel
theorem xnd_MO_lookBoth_21 : decode xnc_MO_lookBoth 21 = .ok (.ireturn, 1) := by decide +kernel
theorem xnd_MO_look_0 : decode xnc_MO_look 0 = .ok (.aload_n 0, 1) := by decide +kernel
theorem xnd_MO_look_1 : decode xnc_MO_look 1 = .ok (.iload_n 1, 1) := by decide +kernel
theorem xnd_MO_look_2 : decode xnc_MO_look 2 = .ok (.iload_n 2, 1) := by decide +kernel
theorem xnd_MO_look_3 : decode xnc_MO_look 3 = .ok (.invokevirtual 87, 3) := by decide +kernel
theorem xnd_MO_look_6 : decode xnc_MO_look 6 = .ok (.istore_n 3, 1) := by decide +kernel
theorem xnd_MO_look_7 : decode xnc_MO_look 7 = .ok (.iload_n 1, 1) := by decide +kernel
theorem xnd_MO_look_8 : decode xnc_MO_look 8 = .ok (.iload_n 2, 1) := by decide +kernel
theorem xnd_MO_look_9 : decode xnc_MO_look 9 = .ok (.invokestatic 80, 3) := by decide +kernel
theorem xnd_MO_look_12 : decode xnc_MO_look 12 = .ok (.istore 4, 2) := by decide +kernel
theorem xnd_MO_look_14 : decode xnc_MO_look 14 = .ok (.iload_n 3, 1) := by decide +kernel
theorem xnd_MO_look_15 : decode xnc_MO_look 15 = .ok (.ifCond .ge 18, 3) := by decide +kernel
theorem xnd_MO_look_18 : decode xnc_MO_look 18 = .ok (.aload_n 0, 1) := by decide +kernel
theorem xnd_MO_look_19 : decode xnc_MO_look 19 = .ok (.getfield 69, 3) := by decide +kernel
theorem xnd_MO_look_22 : decode xnc_MO_look 22 = .ok (.iload 4, 2) := by decide +kernel
theorem xnd_MO_look_24 : decode xnc_MO_look 24 = .ok (.imul, 1) := by decide +kernel
theorem xnd_MO_look_25 : decode xnc_MO_look 25 = .ok (.aload_n 0, 1) := by decide +kernel
theorem xnd_MO_look_26 : decode xnc_MO_look 26 = .ok (.getfield 69, 3) := by decide +kernel
theorem xnd_MO_look_29 : decode xnc_MO_look 29 = .ok (.iadd, 1) := by decide +kernel
theorem xnd_MO_look_30 : decode xnc_MO_look 30 = .ok (.goto 4, 3) := by decide +kernel
theorem xnd_MO_look_33 : decode xnc_MO_look 33 = .ok (.iload_n 3, 1) := by decide +kernel
theorem xnd_MO_look_34 : decode xnc_MO_look 34 = .ok (.istore 5, 2) := by decide +kernel
theorem xnd_MO_look_36 : decode xnc_MO_look 36 = .ok (.aload_n 0, 1) := by decide +kernel
theorem xnd_MO_look_37 : decode xnc_MO_look 37 = .ok (.getfield 69, 3) := by decide +kernel
theorem xnd_MO_look_40 : decode xnc_MO_look 40 = .ok (.iload 4, 2) := by decide +kernel
theorem xnd_MO_look_42 : decode xnc_MO_look 42 = .ok (.imul, 1) := by decide +kernel
theorem xnd_MO_look_43 : decode xnc_MO_look 43 = .ok (.istore 6, 2) := by decide +kernel
theorem xnd_MO_look_45 : decode xnc_MO_look 45 = .ok (.iload 6, 2) := by decide +kernel
theorem xnd_MO_look_47 : decode xnc_MO_look 47 = .ok (.iload 5, 2) := by decide +kernel
theorem xnd_MO_look_49 : decode xnc_MO_look 49 = .ok (.if_icmp .ge 53, 3) := by decide +kernel
theorem xnd_MO_look_52 : decode xnc_MO_look 52 = .ok (.aload_n 0, 1) := by decide +kernel
theorem xnd_MO_look_53 : decode xnc_MO_look 53 = .ok (.getfield 7, 3) := by decide +kernel
theorem xnd_MO_look_56 : decode xnc_MO_look 56 = .ok (.iload 6, 2) := by decide +kernel
theorem xnd_MO_look_58 : decode xnc_MO_look 58 = .ok (.iaload, 1) := by decide +kernel
theorem xnd_MO_look_59 : decode xnc_MO_look 59 = .ok (.ifCond .le 37, 3) := by decide +kernel
theorem xnd_MO_look_62 : decode xnc_MO_look 62 = .ok (.aload_n 0, 1) := by decide +kernel
theorem xnd_MO_look_63 : decode xnc_MO_look 63 = .ok (.getfield 17, 3) := by decide +kernel
theorem xnd_MO_look_66 : decode xnc_MO_look 66 = .ok (.aload_n 0, 1) := by decide +kernel
theorem xnd_MO_look_67 : decode xnc_MO_look 67 = .ok (.getfield 7, 3) := by decide +kernel
theorem xnd_MO_look_70 : decode xnc_MO_look 70 = .ok (.iload 6, 2) := by decide +kernel
theorem xnd_MO_look_72 : decode xnc_MO_look 72 = .ok (.iaload, 1) := by decide +kernel
theorem xnd_MO_look_73 : decode xnc_MO_look 73 = .ok (.iconst 1, 1) := by decide +kernel
theorem xnd_MO_look_74 : decode xnc_MO_look 74 = .ok (.isub, 1) := by decide +kernel
theorem xnd_MO_look_75 : decode xnc_MO_look 75 = .ok (.iaload, 1) := by decide +kernel
theorem xnd_MO_look_76 : decode xnc_MO_look 76 = .ok (.invokestatic 77, 3) := by decide +kernel
theorem xnd_MO_look_79 : decode xnc_MO_look 79 = .ok (.iload_n 1, 1) := by decide +kernel
theorem xnd_MO_look_80 : decode xnc_MO_look 80 = .ok (.invokestatic 77, 3) := by decide +kernel
theorem xnd_MO_look_83 : decode xnc_MO_look 83 = .ok (.if_icmp .ne 13, 3) := by decide +kernel
theorem xnd_MO_look_86 : decode xnc_MO_look 86 = .ok (.aload_n 0, 1) := by decide +kernel
theorem xnd_MO_look_87 : decode xnc_MO_look 87 = .ok (.dup, 1) := by decide +kernel
theorem xnd_MO_look_88 : decode xnc_MO_look 88 = .ok (.getfield 90, 3) := by decide +kernel
theorem xnd_MO_look_91 : decode xnc_MO_look 91 = .ok (.iconst 1, 1) := by decide +kernel
theorem xnd_MO_look_92 : decode xnc_MO_look 92 = .ok (.iadd, 1) := by decide +kernel
theorem xnd_MO_look_93 : decode xnc_MO_look 93 = .ok (.putfield 90, 3) := by decide +kernel
theorem xnd_MO_look_96 : decode xnc_MO_look 96 = .ok (.iinc 6 1, 3) := by decide +kernel
theorem xnd_MO_look_99 : decode xnc_MO_look 99 = .ok (.goto (-54), 3) := by decide +kernel
theorem xnd_MO_look_102 : decode xnc_MO_look 102 = .ok (.iload_n 3, 1) := by decide +kernel
theorem xnd_MO_look_103 : decode xnc_MO_look 103 = .ok (.ireturn, 1) := by decide +kernel
theorem xnd_MO_over_0 : decode xnc_MO_over 0 = .ok (.iload_n 1, 1) := by decide +kernel
theorem xnd_MO_over_1 : decode xnc_MO_over 1 = .ok (.ifCond .eq 15, 3) := by decide +kernel
theorem xnd_MO_over_4 : decode xnc_MO_over 4 = .ok (.iload_n 1, 1) := by decide +kernel
theorem xnd_MO_over_5 : decode xnc_MO_over 5 = .ok (.aload_n 0, 1) := by decide +kernel
theorem xnd_MO_over_6 : decode xnc_MO_over 6 = .ok (.getfield 96, 3) := by decide +kernel
theorem xnd_MO_over_9 : decode xnc_MO_over 9 = .ok (.if_icmp .gt 7, 3) := by decide +kernel
theorem xnd_MO_over_12 : decode xnc_MO_over 12 = .ok (.iconst 1, 1) := by decide +kernel
theorem xnd_MO_over_13 : decode xnc_MO_over 13 = .ok (.goto 4, 3) := by decide +kernel
theorem xnd_MO_over_16 : decode xnc_MO_over 16 = .ok (.iconst 0, 1) := by decide +kernel
theorem xnd_MO_over_17 : decode xnc_MO_over 17 = .ok (.ireturn, 1) := by decide +kernel
theorem xnd_MO_remove_0 : decode xnc_MO_remove 0 = .ok (.iconst 0, 1) := by decide +kernel
theorem xnd_MO_remove_1 : decode xnc_MO_remove 1 = .ok (.istore_n 2, 1) := by decide +kernel
theorem xnd_MO_remove_2 : decode xnc_MO_remove 2 = .ok (.iload_n 2, 1) := by decide +kernel
theorem xnd_MO_remove_3 : decode xnc_MO_remove 3 = .ok (.bipush 8, 2) := by decide +kernel
theorem xnd_MO_remove_5 : decode xnc_MO_remove 5 = .ok (.aload_n 0, 1) := by decide +kernel
theorem xnd_MO_remove_6 : decode xnc_MO_remove 6 = .ok (.getfield 69, 3) := by decide +kernel
theorem xnd_MO_remove_9 : decode xnc_MO_remove 9 = .ok (.imul, 1) := by decide +kernel
theorem xnd_MO_remove_10 : decode xnc_MO_remove 10 = .ok (.if_icmp .ge 37, 3) := by decide +kernel
theorem xnd_MO_remove_13 : decode xnc_MO_remove 13 = .ok (.aload_n 0, 1) := by decide +kernel
theorem xnd_MO_remove_14 : decode xnc_MO_remove 14 = .ok (.getfield 7, 3) := by decide +kernel
theorem xnd_MO_remove_17 : decode xnc_MO_remove 17 = .ok (.iload_n 2, 1) := by decide +kernel
theorem xnd_MO_remove_18 : decode xnc_MO_remove 18 = .ok (.aload_n 0, 1) := by decide +kernel
theorem xnd_MO_remove_19 : decode xnc_MO_remove 19 = .ok (.getfield 7, 3) := by decide +kernel
theorem xnd_MO_remove_22 : decode xnc_MO_remove 22 = .ok (.iload_n 2, 1) := by decide +kernel
theorem xnd_MO_remove_23 : decode xnc_MO_remove 23 = .ok (.iaload, 1) := by decide +kernel
theorem xnd_MO_remove_24 : decode xnc_MO_remove 24 = .ok (.iload_n 1, 1) := by decide +kernel
theorem xnd_MO_remove_25 : decode xnc_MO_remove 25 = .ok (.iconst 1, 1) := by decide +kernel
theorem xnd_MO_remove_26 : decode xnc_MO_remove 26 = .ok (.iadd, 1) := by decide +kernel
theorem xnd_MO_remove_27 : decode xnc_MO_remove 27 = .ok (.if_icmp .ne 7, 3) := by decide +kernel
theorem xnd_MO_remove_30 : decode xnc_MO_remove 30 = .ok (.iconst 0, 1) := by decide +kernel
theorem xnd_MO_remove_31 : decode xnc_MO_remove 31 = .ok (.goto 9, 3) := by decide +kernel
theorem xnd_MO_remove_34 : decode xnc_MO_remove 34 = .ok (.aload_n 0, 1) := by decide +kernel
theorem xnd_MO_remove_35 : decode xnc_MO_remove 35 = .ok (.getfield 7, 3) := by decide +kernel
theorem xnd_MO_remove_38 : decode xnc_MO_remove 38 = .ok (.iload_n 2, 1) := by decide +kernel
theorem xnd_MO_remove_39 : decode xnc_MO_remove 39 = .ok (.iaload, 1) := by decide +kernel
theorem xnd_MO_remove_40 : decode xnc_MO_remove 40 = .ok (.iastore, 1) := by decide +kernel
theorem xnd_MO_remove_41 : decode xnc_MO_remove 41 = .ok (.iinc 2 1, 3) := by decide +kernel
theorem xnd_MO_remove_44 : decode xnc_MO_remove 44 = .ok (.goto (-42), 3) := by decide +kernel
theorem xnd_MO_remove_47 : decode xnc_MO_remove 47 = .ok (.aload_n 0, 1) := by decide +kernel
theorem xnd_MO_remove_48 : decode xnc_MO_remove 48 = .ok (.getfield 13, 3) := by decide +kernel
theorem xnd_MO_remove_51 : decode xnc_MO_remove 51 = .ok (.iload_n 1, 1) := by decide +kernel
theorem xnd_MO_remove_52 : decode xnc_MO_remove 52 = .ok (.iconst 0, 1) := by decide +kernel
theorem xnd_MO_remove_53 : decode xnc_MO_remove 53 = .ok (.bastore, 1) := by decide +kernel
theorem xnd_MO_remove_54 : decode xnc_MO_remove 54 = .ok (.aload_n 0, 1) := by decide +kernel
theorem xnd_MO_remove_55 : decode xnc_MO_remove 55 = .ok (.getfield 32, 3) := by decide +kernel
theorem xnd_MO_remove_58 : decode xnc_MO_remove 58 = .ok (.aload_n 0, 1) := by decide +kernel
theorem xnd_MO_remove_59 : decode xnc_MO_remove 59 = .ok (.getfield 17, 3) := by decide +kernel
theorem xnd_MO_remove_62 : decode xnc_MO_remove 62 = .ok (.iload_n 1, 1) := by decide +kernel
theorem xnd_MO_remove_63 : decode xnc_MO_remove 63 = .ok (.iaload, 1) := by decide +kernel
theorem xnd_MO_remove_64 : decode xnc_MO_remove 64 = .ok (.invokestatic 84, 3) := by decide +kernel
theorem xnd_MO_remove_67 : decode xnc_MO_remove 67 = .ok (.dup2, 1) := by decide +kernel
theorem xnd_MO_remove_68 : decode xnc_MO_remove 68 = .ok (.iaload, 1) := by decide +kernel
theorem xnd_MO_remove_69 : decode xnc_MO_remove 69 = .ok (.iconst 2, 1) := by decide +kernel
theorem xnd_MO_remove_70 : decode xnc_MO_remove 70 = .ok (.iadd, 1) := by decide +kernel
theorem xnd_MO_remove_71 : decode xnc_MO_remove 71 = .ok (.iastore, 1) := by decide +kernel
theorem xnd_MO_remove_72 : decode xnc_MO_remove 72 = .ok (.return_, 1) := by decide +kernel
theorem xnd_MO_finish_0 : decode xnc_MO_finish 0 = .ok (.aload_n 0, 1) := by decide +kernel
theorem xnd_MO_finish_1 : decode xnc_MO_finish 1 = .ok (.iconst 0, 1) := by decide +kernel
theorem xnd_MO_finish_2 : decode xnc_MO_finish 2 = .ok (.putfield 99, 3) := by decide +kernel
theorem xnd_MO_finish_5 : decode xnc_MO_finish 5 = .ok (.aload_n 0, 1) := by decide +kernel
theorem xnd_MO_finish_6 : decode xnc_MO_finish 6 = .ok (.iload_n 1, 1) := by decide +kernel
theorem xnd_MO_finish_7 : decode xnc_MO_finish 7 = .ok (.putfield 35, 3) := by decide +kernel
theorem xnd_MO_finish_10 : decode xnc_MO_finish 10 = .ok (.return_, 1) := by decide +kernel
theorem xnd_MO_many_0 : decode xnc_MO_many 0 = .ok (.iconst 0, 1) := by decide +kernel
theorem xnd_MO_many_1 : decode xnc_MO_many 1 = .ok (.istore_n 1, 1) := by decide +kernel
theorem xnd_MO_many_2 : decode xnc_MO_many 2 = .ok (.iconst 0, 1) := by decide +kernel
theorem xnd_MO_many_3 : decode xnc_MO_many 3 = .ok (.istore_n 2, 1) := by decide +kernel
theorem xnd_MO_many_4 : decode xnc_MO_many 4 = .ok (.iload_n 2, 1) := by decide +kernel
theorem xnd_MO_many_5 : decode xnc_MO_many 5 = .ok (.aload_n 0, 1) := by decide +kernel
theorem xnd_MO_many_6 : decode xnc_MO_many 6 = .ok (.getfield 66, 3) := by decide +kernel
theorem xnd_MO_many_9 : decode xnc_MO_many 9 = .ok (.if_icmp .ge 26, 3) := by decide +kernel
theorem xnd_MO_many_12 : decode xnc_MO_many 12 = .ok (.iload_n 1, 1) := by decide +kernel
theorem xnd_MO_many_13 : decode xnc_MO_many 13 = .ok (.aload_n 0, 1) := by decide +kernel
theorem xnd_MO_many_14 : decode xnc_MO_many 14 = .ok (.getfield 13, 3) := by decide +kernel
theorem xnd_MO_many_17 : decode xnc_MO_many 17 = .ok (.iload_n 2, 1) := by decide +kernel
theorem xnd_MO_many_18 : decode xnc_MO_many 18 = .ok (.baload, 1) := by decide +kernel
theorem xnd_MO_many_19 : decode xnc_MO_many 19 = .ok (.ifCond .eq 7, 3) := by decide +kernel
theorem xnd_MO_many_22 : decode xnc_MO_many 22 = .ok (.iconst 1, 1) := by decide +kernel
theorem xnd_MO_many_23 : decode xnc_MO_many 23 = .ok (.goto 4, 3) := by decide +kernel
theorem xnd_MO_many_26 : decode xnc_MO_many 26 = .ok (.iconst 0, 1) := by decide +kernel
theorem xnd_MO_many_27 : decode xnc_MO_many 27 = .ok (.iadd, 1) := by decide +kernel
theorem xnd_MO_many_28 : decode xnc_MO_many 28 = .ok (.istore_n 1, 1) := by decide +kernel
theorem xnd_MO_many_29 : decode xnc_MO_many 29 = .ok (.iinc 2 1, 3) := by decide +kernel
theorem xnd_MO_many_32 : decode xnc_MO_many 32 = .ok (.goto (-28), 3) := by decide +kernel
theorem xnd_MO_many_35 : decode xnc_MO_many 35 = .ok (.iload_n 1, 1) := by decide +kernel
theorem xnd_MO_many_36 : decode xnc_MO_many 36 = .ok (.ireturn, 1) := by decide +kernel
theorem xnd_MO_stamp_0 : decode xnc_MO_stamp 0 = .ok (.aload_n 0, 1) := by decide +kernel
theorem xnd_MO_stamp_1 : decode xnc_MO_stamp 1 = .ok (.dup, 1) := by decide +kernel
theorem xnd_MO_stamp_2 : decode xnc_MO_stamp 2 = .ok (.getfield 145, 3) := by decide +kernel
theorem xnd_MO_stamp_5 : decode xnc_MO_stamp 5 = .ok (.iconst 1, 1) := by decide +kernel
theorem xnd_MO_stamp_6 : decode xnc_MO_stamp 6 = .ok (.iadd, 1) := by decide +kernel
theorem xnd_MO_stamp_7 : decode xnc_MO_stamp 7 = .ok (.putfield 145, 3) := by decide +kernel
theorem xnd_MO_stamp_10 : decode xnc_MO_stamp 10 = .ok (.aload_n 0, 1) := by decide +kernel
theorem xnd_MO_stamp_11 : decode xnc_MO_stamp 11 = .ok (.getfield 23, 3) := by decide +kernel
theorem xnd_MO_stamp_14 : decode xnc_MO_stamp 14 = .ok (.iload_n 1, 1) := by decide +kernel
theorem xnd_MO_stamp_15 : decode xnc_MO_stamp 15 = .ok (.aload_n 0, 1) := by decide +kernel
theorem xnd_MO_stamp_16 : decode xnc_MO_stamp 16 = .ok (.getfield 145, 3) := by decide +kernel
theorem xnd_MO_stamp_19 : decode xnc_MO_stamp 19 = .ok (.iastore, 1) := by decide +kernel
theorem xnd_MO_stamp_20 : decode xnc_MO_stamp 20 = .ok (.aload_n 0, 1) := by decide +kernel
theorem xnd_MO_stamp_21 : decode xnc_MO_stamp 21 = .ok (.getfield 26, 3) := by decide +kernel
theorem xnd_MO_stamp_24 : decode xnc_MO_stamp 24 = .ok (.iload_n 1, 1) := by decide +kernel
theorem xnd_MO_stamp_25 : decode xnc_MO_stamp 25 = .ok (.aload_n 0, 1) := by decide +kernel
theorem xnd_MO_stamp_26 : decode xnc_MO_stamp 26 = .ok (.getfield 111, 3) := by decide +kernel
theorem xnd_MO_stamp_29 : decode xnc_MO_stamp 29 = .ok (.ifCond .ne 7, 3) := by decide +kernel
theorem xnd_MO_stamp_32 : decode xnc_MO_stamp 32 = .ok (.iconst 0, 1) := by decide +kernel
theorem xnd_MO_stamp_33 : decode xnc_MO_stamp 33 = .ok (.goto 12, 3) := by decide +kernel
theorem xnd_MO_stamp_36 : decode xnc_MO_stamp 36 = .ok (.aload_n 0, 1) := by decide +kernel
theorem xnd_MO_stamp_37 : decode xnc_MO_stamp 37 = .ok (.getfield 96, 3) := by decide +kernel
theorem xnd_MO_stamp_40 : decode xnc_MO_stamp 40 = .ok (.aload_n 0, 1) := by decide +kernel
theorem xnd_MO_stamp_41 : decode xnc_MO_stamp 41 = .ok (.getfield 111, 3) := by decide +kernel
theorem xnd_MO_stamp_44 : decode xnc_MO_stamp 44 = .ok (.iadd, 1) := by decide +kernel
theorem xnd_MO_stamp_45 : decode xnc_MO_stamp 45 = .ok (.iastore, 1) := by decide +kernel
theorem xnd_MO_stamp_46 : decode xnc_MO_stamp 46 = .ok (.return_, 1) := by decide +kernel
theorem xnd_MO_evict_0 : decode xnc_MO_evict 0 = .ok (.iconst 0, 1) := by decide +kernel
theorem xnd_MO_evict_1 : decode xnc_MO_evict 1 = .ok (.istore_n 1, 1) := by decide +kernel
theorem xnd_MO_evict_2 : decode xnc_MO_evict 2 = .ok (.iload_n 1, 1) := by decide +kernel
theorem xnd_MO_evict_3 : decode xnc_MO_evict 3 = .ok (.aload_n 0, 1) := by decide +kernel
theorem xnd_MO_evict_4 : decode xnc_MO_evict 4 = .ok (.getfield 66, 3) := by decide +kernel
theorem xnd_MO_evict_7 : decode xnc_MO_evict 7 = .ok (.if_icmp .gt 46, 3) := by decide +kernel
theorem xnd_MO_evict_10 : decode xnc_MO_evict 10 = .ok (.aload_n 0, 1) := by decide +kernel
theorem xnd_MO_evict_11 : decode xnc_MO_evict 11 = .ok (.getfield 29, 3) := by decide +kernel
theorem xnd_MO_evict_14 : decode xnc_MO_evict 14 = .ok (.aload_n 0, 1) := by decide +kernel
theorem xnd_MO_evict_15 : decode xnc_MO_evict 15 = .ok (.getfield 165, 3) := by decide +kernel
theorem xnd_MO_evict_18 : decode xnc_MO_evict 18 = .ok (.baload, 1) := by decide +kernel
theorem xnd_MO_evict_19 : decode xnc_MO_evict 19 = .ok (.ifCond .eq 34, 3) := by decide +kernel
theorem xnd_MO_evict_22 : decode xnc_MO_evict 22 = .ok (.aload_n 0, 1) := by decide +kernel
theorem xnd_MO_evict_23 : decode xnc_MO_evict 23 = .ok (.getfield 29, 3) := by decide +kernel
theorem xnd_MO_evict_26 : decode xnc_MO_evict 26 = .ok (.aload_n 0, 1) := by decide +kernel
theorem xnd_MO_evict_27 : decode xnc_MO_evict 27 = .ok (.getfield 165, 3) := by decide +kernel
theorem xnd_MO_evict_30 : decode xnc_MO_evict 30 = .ok (.iconst 0, 1) := by decide +kernel
theorem xnd_MO_evict_31 : decode xnc_MO_evict 31 = .ok (.bastore, 1) := by decide +kernel
theorem xnd_MO_evict_32 : decode xnc_MO_evict 32 = .ok (.aload_n 0, 1) := by decide +kernel
theorem xnd_MO_evict_33 : decode xnc_MO_evict 33 = .ok (.aload_n 0, 1) := by decide +kernel
theorem xnd_MO_evict_34 : decode xnc_MO_evict 34 = .ok (.getfield 165, 3) := by decide +kernel
theorem xnd_MO_evict_37 : decode xnc_MO_evict 37 = .ok (.iconst 1, 1) := by decide +kernel
theorem xnd_MO_evict_38 : decode xnc_MO_evict 38 = .ok (.iadd, 1) := by decide +kernel
theorem xnd_MO_evict_39 : decode xnc_MO_evict 39 = .ok (.aload_n 0, 1) := by decide +kernel
theorem xnd_MO_evict_40 : decode xnc_MO_evict 40 = .ok (.getfield 66, 3) := by decide +kernel
theorem xnd_MO_evict_43 : decode xnc_MO_evict 43 = .ok (.irem, 1) := by decide +kernel
theorem xnd_MO_evict_44 : decode xnc_MO_evict 44 = .ok (.putfield 165, 3) := by decide +kernel
theorem xnd_MO_evict_47 : decode xnc_MO_evict 47 = .ok (.iinc 1 1, 3) := by decide +kernel
theorem xnd_MO_evict_50 : decode xnc_MO_evict 50 = .ok (.goto (-48), 3) := by decide +kernel
theorem xnd_MO_evict_53 : decode xnc_MO_evict 53 = .ok (.aload_n 0, 1) := by decide +kernel
theorem xnd_MO_evict_54 : decode xnc_MO_evict 54 = .ok (.aload_n 0, 1) := by decide +kernel
theorem xnd_MO_evict_55 : decode xnc_MO_evict 55 = .ok (.getfield 165, 3) := by decide +kernel
theorem xnd_MO_evict_58 : decode xnc_MO_evict 58 = .ok (.invokevirtual 155, 3) := by decide +kernel
theorem xnd_MO_evict_61 : decode xnc_MO_evict 61 = .ok (.aload_n 0, 1) := by decide +kernel
theorem xnd_MO_evict_62 : decode xnc_MO_evict 62 = .ok (.aload_n 0, 1) := by decide +kernel
theorem xnd_MO_evict_63 : decode xnc_MO_evict 63 = .ok (.getfield 165, 3) := by decide +kernel
theorem xnd_MO_evict_66 : decode xnc_MO_evict 66 = .ok (.iconst 1, 1) := by decide +kernel
theorem xnd_MO_evict_67 : decode xnc_MO_evict 67 = .ok (.iadd, 1) := by decide +kernel
theorem xnd_MO_evict_68 : decode xnc_MO_evict 68 = .ok (.aload_n 0, 1) := by decide +kernel
theorem xnd_MO_evict_69 : decode xnc_MO_evict 69 = .ok (.getfield 66, 3) := by decide +kernel
theorem xnd_MO_evict_72 : decode xnc_MO_evict 72 = .ok (.irem, 1) := by decide +kernel
theorem xnd_MO_evict_73 : decode xnc_MO_evict 73 = .ok (.putfield 165, 3) := by decide +kernel
theorem xnd_MO_evict_76 : decode xnc_MO_evict 76 = .ok (.aload_n 0, 1) := by decide +kernel
theorem xnd_MO_evict_77 : decode xnc_MO_evict 77 = .ok (.dup, 1) := by decide +kernel
theorem xnd_MO_evict_78 : decode xnc_MO_evict 78 = .ok (.getfield 168, 3) := by decide +kernel
theorem xnd_MO_evict_81 : decode xnc_MO_evict 81 = .ok (.iconst 1, 1) := by decide +kernel
theorem xnd_MO_evict_82 : decode xnc_MO_evict 82 = .ok (.iadd, 1) := by decide +kernel
theorem xnd_MO_evict_83 : decode xnc_MO_evict 83 = .ok (.putfield 168, 3) := by decide +kernel
theorem xnd_MO_evict_86 : decode xnc_MO_evict 86 = .ok (.aload_n 0, 1) := by decide +kernel
theorem xnd_MO_evict_87 : decode xnc_MO_evict 87 = .ok (.iconst 5, 1) := by decide +kernel
theorem xnd_MO_evict_88 : decode xnc_MO_evict 88 = .ok (.putfield 99, 3) := by decide +kernel
theorem xnd_MO_evict_91 : decode xnc_MO_evict 91 = .ok (.return_, 1) := by decide +kernel
theorem xnd_MO_seek_0 : decode xnc_MO_seek 0 = .ok (.iconst 2, 1) := by decide +kernel
theorem xnd_MO_seek_1 : decode xnc_MO_seek 1 = .ok (.aload_n 0, 1) := by decide +kernel
theorem xnd_MO_seek_2 : decode xnc_MO_seek 2 = .ok (.getfield 69, 3) := by decide +kernel
theorem xnd_MO_seek_5 : decode xnc_MO_seek 5 = .ok (.imul, 1) := by decide +kernel
theorem xnd_MO_seek_6 : decode xnc_MO_seek 6 = .ok (.istore_n 1, 1) := by decide +kernel
theorem xnd_MO_seek_7 : decode xnc_MO_seek 7 = .ok (.iconst 0, 1) := by decide +kernel
theorem xnd_MO_seek_8 : decode xnc_MO_seek 8 = .ok (.istore_n 2, 1) := by decide +kernel
theorem xnd_MO_seek_9 : decode xnc_MO_seek 9 = .ok (.iload_n 2, 1) := by decide +kernel
theorem xnd_MO_seek_10 : decode xnc_MO_seek 10 = .ok (.iconst 4, 1) := by decide +kernel
theorem xnd_MO_seek_11 : decode xnc_MO_seek 11 = .ok (.if_icmp .gt 66, 3) := by decide +kernel
theorem xnd_MO_seek_14 : decode xnc_MO_seek 14 = .ok (.iconst 0, 1) := by decide +kernel
theorem xnd_MO_seek_15 : decode xnc_MO_seek 15 = .ok (.istore_n 3, 1) := by decide +kernel
theorem xnd_MO_seek_16 : decode xnc_MO_seek 16 = .ok (.iload_n 3, 1) := by decide +kernel
theorem xnd_MO_seek_17 : decode xnc_MO_seek 17 = .ok (.iload_n 1, 1) := by decide +kernel
theorem xnd_MO_seek_18 : decode xnc_MO_seek 18 = .ok (.if_icmp .ge 46, 3) := by decide +kernel
theorem xnd_MO_seek_21 : decode xnc_MO_seek 21 = .ok (.aload_n 0, 1) := by decide +kernel
theorem xnd_MO_seek_22 : decode xnc_MO_seek 22 = .ok (.iload_n 3, 1) := by decide +kernel
theorem xnd_MO_seek_23 : decode xnc_MO_seek 23 = .ok (.iload_n 2, 1) := by decide +kernel
theorem xnd_MO_seek_24 : decode xnc_MO_seek 24 = .ok (.invokevirtual 171, 3) := by decide +kernel
theorem xnd_MO_seek_27 : decode xnc_MO_seek 27 = .ok (.ifCond .eq 31, 3) := by decide +kernel
theorem xnd_MO_seek_30 : decode xnc_MO_seek 30 = .ok (.aload_n 0, 1) := by decide +kernel
theorem xnd_MO_seek_31 : decode xnc_MO_seek 31 = .ok (.iload_n 2, 1) := by decide +kernel
theorem xnd_MO_seek_32 : decode xnc_MO_seek 32 = .ok (.putfield 175, 3) := by decide +kernel
theorem xnd_MO_seek_35 : decode xnc_MO_seek 35 = .ok (.aload_n 0, 1) := by decide +kernel
theorem xnd_MO_seek_36 : decode xnc_MO_seek 36 = .ok (.iload_n 2, 1) := by decide +kernel
theorem xnd_MO_seek_37 : decode xnc_MO_seek 37 = .ok (.iconst 1, 1) := by decide +kernel
theorem xnd_MO_seek_38 : decode xnc_MO_seek 38 = .ok (.isub, 1) := by decide +kernel
theorem xnd_MO_seek_39 : decode xnc_MO_seek 39 = .ok (.putfield 178, 3) := by decide +kernel
theorem xnd_MO_seek_42 : decode xnc_MO_seek 42 = .ok (.aload_n 0, 1) := by decide +kernel
theorem xnd_MO_seek_43 : decode xnc_MO_seek 43 = .ok (.iload_n 2, 1) := by decide +kernel
theorem xnd_MO_seek_44 : decode xnc_MO_seek 44 = .ok (.ifCond .le 8, 3) := by decide +kernel
theorem xnd_MO_seek_47 : decode xnc_MO_seek 47 = .ok (.bipush 6, 2) := by decide +kernel
theorem xnd_MO_seek_49 : decode xnc_MO_seek 49 = .ok (.goto 5, 3) := by decide +kernel
theorem xnd_MO_seek_52 : decode xnc_MO_seek 52 = .ok (.bipush 8, 2) := by decide +kernel
theorem xnd_MO_seek_54 : decode xnc_MO_seek 54 = .ok (.putfield 99, 3) := by decide +kernel
theorem xnd_MO_seek_57 : decode xnc_MO_seek 57 = .ok (.return_, 1) := by decide +kernel
theorem xnd_MO_seek_58 : decode xnc_MO_seek 58 = .ok (.iinc 3 1, 3) := by decide +kernel
theorem xnd_MO_seek_61 : decode xnc_MO_seek 61 = .ok (.goto (-45), 3) := by decide +kernel
theorem xnd_MO_seek_64 : decode xnc_MO_seek 64 = .ok (.iload_n 1, 1) := by decide +kernel
theorem xnd_MO_seek_65 : decode xnc_MO_seek 65 = .ok (.aload_n 0, 1) := by decide +kernel
theorem xnd_MO_seek_66 : decode xnc_MO_seek 66 = .ok (.getfield 69, 3) := by decide +kernel
theorem xnd_MO_seek_69 : decode xnc_MO_seek 69 = .ok (.imul, 1) := by decide +kernel
theorem xnd_MO_seek_70 : decode xnc_MO_seek 70 = .ok (.istore_n 1, 1) := by decide +kernel
theorem xnd_MO_seek_71 : decode xnc_MO_seek 71 = .ok (.iinc 2 1, 3) := by decide +kernel
theorem xnd_MO_seek_74 : decode xnc_MO_seek 74 = .ok (.goto (-65), 3) := by decide +kernel
theorem xnd_MO_seek_77 : decode xnc_MO_seek 77 = .ok (.aload_n 0, 1) := by decide +kernel
theorem xnd_MO_seek_78 : decode xnc_MO_seek 78 = .ok (.bipush 6, 2) := by decide +kernel
theorem xnd_MO_seek_80 : decode xnc_MO_seek 80 = .ok (.invokevirtual 130, 3) := by decide +kernel
theorem xnd_MO_seek_83 : decode xnc_MO_seek 83 = .ok (.return_, 1) := by decide +kernel
theorem xnd_MO_leads_0 : decode xnc_MO_leads 0 = .ok (.iconst 1, 1) := by decide +kernel
theorem xnd_MO_leads_1 : decode xnc_MO_leads 1 = .ok (.istore_n 3, 1) := by decide +kernel
theorem xnd_MO_leads_2 : decode xnc_MO_leads 2 = .ok (.iconst 0, 1) := by decide +kernel
theorem xnd_MO_leads_3 : decode xnc_MO_leads 3 = .ok (.istore 4, 2) := by decide +kernel
theorem xnd_MO_leads_5 : decode xnc_MO_leads 5 = .ok (.iload 4, 2) := by decide +kernel
theorem xnd_MO_leads_7 : decode xnc_MO_leads 7 = .ok (.iload_n 2, 1) := by decide +kernel
theorem xnd_MO_leads_8 : decode xnc_MO_leads 8 = .ok (.if_icmp .ge 16, 3) := by decide +kernel
theorem xnd_MO_leads_11 : decode xnc_MO_leads 11 = .ok (.iload_n 3, 1) := by decide +kernel
theorem xnd_MO_leads_12 : decode xnc_MO_leads 12 = .ok (.aload_n 0, 1) := by decide +kernel
theorem xnd_MO_leads_13 : decode xnc_MO_leads 13 = .ok (.getfield 69, 3) := by decide +kernel
theorem xnd_MO_leads_16 : decode xnc_MO_leads 16 = .ok (.imul, 1) := by decide +kernel
theorem xnd_MO_leads_17 : decode xnc_MO_leads 17 = .ok (.istore_n 3, 1) := by decide +kernel
theorem xnd_MO_leads_18 : decode xnc_MO_leads 18 = .ok (.iinc 4 1, 3) := by decide +kernel
theorem xnd_MO_leads_21 : decode xnc_MO_leads 21 = .ok (.goto (-16), 3) := by decide +kernel
theorem xnd_MO_leads_24 : decode xnc_MO_leads 24 = .ok (.iload_n 1, 1) := by decide +kernel
theorem xnd_MO_leads_25 : decode xnc_MO_leads 25 = .ok (.istore 4, 2) := by decide +kernel
theorem xnd_MO_leads_27 : decode xnc_MO_leads 27 = .ok (.iconst 0, 1) := by decide +kernel
theorem xnd_MO_leads_28 : decode xnc_MO_leads 28 = .ok (.istore 5, 2) := by decide +kernel
theorem xnd_MO_leads_30 : decode xnc_MO_leads 30 = .ok (.iload 5, 2) := by decide +kernel
theorem xnd_MO_leads_32 : decode xnc_MO_leads 32 = .ok (.iload_n 2, 1) := by decide +kernel
theorem xnd_MO_leads_33 : decode xnc_MO_leads 33 = .ok (.if_icmp .gt 172, 3) := by decide +kernel
theorem xnd_MO_leads_36 : decode xnc_MO_leads 36 = .ok (.iload 4, 2) := by decide +kernel
theorem xnd_MO_leads_38 : decode xnc_MO_leads 38 = .ok (.iload_n 3, 1) := by decide +kernel
theorem xnd_MO_leads_39 : decode xnc_MO_leads 39 = .ok (.idiv, 1) := by decide +kernel
theorem xnd_MO_leads_40 : decode xnc_MO_leads 40 = .ok (.istore 6, 2) := by decide +kernel
theorem xnd_MO_leads_42 : decode xnc_MO_leads 42 = .ok (.iload 4, 2) := by decide +kernel
theorem xnd_MO_leads_44 : decode xnc_MO_leads 44 = .ok (.iload_n 3, 1) := by decide +kernel
theorem xnd_MO_leads_45 : decode xnc_MO_leads 45 = .ok (.irem, 1) := by decide +kernel
theorem xnd_MO_leads_46 : decode xnc_MO_leads 46 = .ok (.istore 4, 2) := by decide +kernel
theorem xnd_MO_leads_48 : decode xnc_MO_leads 48 = .ok (.iload_n 3, 1) := by decide +kernel
theorem xnd_MO_leads_49 : decode xnc_MO_leads 49 = .ok (.aload_n 0, 1) := by decide +kernel
theorem xnd_MO_leads_50 : decode xnc_MO_leads 50 = .ok (.getfield 69, 3) := by decide +kernel
theorem xnd_MO_leads_53 : decode xnc_MO_leads 53 = .ok (.idiv, 1) := by decide +kernel
theorem xnd_MO_leads_54 : decode xnc_MO_leads 54 = .ok (.istore_n 3, 1) := by decide +kernel
theorem xnd_MO_leads_55 : decode xnc_MO_leads 55 = .ok (.iload 5, 2) := by decide +kernel
theorem xnd_MO_leads_57 : decode xnc_MO_leads 57 = .ok (.ifCond .ne 39, 3) := by decide +kernel
theorem xnd_MO_leads_60 : decode xnc_MO_leads 60 = .ok (.aload_n 0, 1) := by decide +kernel
theorem xnd_MO_leads_61 : decode xnc_MO_leads 61 = .ok (.getfield 39, 3) := by decide +kernel
theorem xnd_MO_leads_64 : decode xnc_MO_leads 64 = .ok (.iconst 0, 1) := by decide +kernel
theorem xnd_MO_leads_65 : decode xnc_MO_leads 65 = .ok (.aload_n 0, 1) := by decide +kernel
theorem xnd_MO_leads_66 : decode xnc_MO_leads 66 = .ok (.getfield 69, 3) := by decide +kernel
theorem xnd_MO_leads_69 : decode xnc_MO_leads 69 = .ok (.aload_n 0, 1) := by decide +kernel
theorem xnd_MO_leads_70 : decode xnc_MO_leads 70 = .ok (.getfield 105, 3) := by decide +kernel
theorem xnd_MO_leads_73 : decode xnc_MO_leads 73 = .ok (.iload 6, 2) := by decide +kernel
theorem xnd_MO_leads_75 : decode xnc_MO_leads 75 = .ok (.aload_n 0, 1) := by decide +kernel
theorem xnd_MO_leads_76 : decode xnc_MO_leads 76 = .ok (.getfield 69, 3) := by decide +kernel
theorem xnd_MO_leads_79 : decode xnc_MO_leads 79 = .ok (.idiv, 1) := by decide +kernel
theorem xnd_MO_leads_80 : decode xnc_MO_leads 80 = .ok (.invokestatic 80, 3) := by decide +kernel
theorem xnd_MO_leads_83 : decode xnc_MO_leads 83 = .ok (.imul, 1) := by decide +kernel
theorem xnd_MO_leads_84 : decode xnc_MO_leads 84 = .ok (.iload 6, 2) := by decide +kernel
theorem xnd_MO_leads_86 : decode xnc_MO_leads 86 = .ok (.aload_n 0, 1) := by decide +kernel
theorem xnd_MO_leads_87 : decode xnc_MO_leads 87 = .ok (.getfield 69, 3) := by decide +kernel
theorem xnd_MO_leads_90 : decode xnc_MO_leads 90 = .ok (.irem, 1) := by decide +kernel
theorem xnd_MO_leads_91 : decode xnc_MO_leads 91 = .ok (.iadd, 1) := by decide +kernel
theorem xnd_MO_leads_92 : decode xnc_MO_leads 92 = .ok (.iastore, 1) := by decide +kernel
theorem xnd_MO_leads_93 : decode xnc_MO_leads 93 = .ok (.goto 70, 3) := by decide +kernel
theorem xnd_MO_leads_96 : decode xnc_MO_leads 96 = .ok (.aload_n 0, 1) := by decide +kernel
theorem xnd_MO_leads_97 : decode xnc_MO_leads 97 = .ok (.getfield 17, 3) := by decide +kernel
theorem xnd_MO_leads_100 : decode xnc_MO_leads 100 = .ok (.aload_n 0, 1) := by decide +kernel
theorem xnd_MO_leads_101 : decode xnc_MO_leads 101 = .ok (.getfield 7, 3) := by decide +kernel
theorem xnd_MO_leads_104 : decode xnc_MO_leads 104 = .ok (.aload_n 0, 1) := by decide +kernel
theorem xnd_MO_leads_105 : decode xnc_MO_leads 105 = .ok (.getfield 39, 3) := by decide +kernel
theorem xnd_MO_leads_108 : decode xnc_MO_leads 108 = .ok (.iload 5, 2) := by decide +kernel
theorem xnd_MO_leads_110 : decode xnc_MO_leads 110 = .ok (.iconst 1, 1) := by decide +kernel
theorem xnd_MO_leads_111 : decode xnc_MO_leads 111 = .ok (.isub, 1) := by decide +kernel
theorem xnd_MO_leads_112 : decode xnc_MO_leads 112 = .ok (.iaload, 1) := by decide +kernel
theorem xnd_MO_leads_113 : decode xnc_MO_leads 113 = .ok (.iaload, 1) := by decide +kernel
theorem xnd_MO_leads_114 : decode xnc_MO_leads 114 = .ok (.iconst 1, 1) := by decide +kernel
theorem xnd_MO_leads_115 : decode xnc_MO_leads 115 = .ok (.isub, 1) := by decide +kernel
theorem xnd_MO_leads_116 : decode xnc_MO_leads 116 = .ok (.iaload, 1) := by decide +kernel
theorem xnd_MO_leads_117 : decode xnc_MO_leads 117 = .ok (.istore 7, 2) := by decide +kernel
theorem xnd_MO_leads_119 : decode xnc_MO_leads 119 = .ok (.aload_n 0, 1) := by decide +kernel
theorem xnd_MO_leads_120 : decode xnc_MO_leads 120 = .ok (.getfield 39, 3) := by decide +kernel
theorem xnd_MO_leads_123 : decode xnc_MO_leads 123 = .ok (.iload 5, 2) := by decide +kernel
theorem xnd_MO_leads_125 : decode xnc_MO_leads 125 = .ok (.iconst 1, 1) := by decide +kernel
theorem xnd_MO_leads_126 : decode xnc_MO_leads 126 = .ok (.isub, 1) := by decide +kernel
theorem xnd_MO_leads_127 : decode xnc_MO_leads 127 = .ok (.iaload, 1) := by decide +kernel
theorem xnd_MO_leads_128 : decode xnc_MO_leads 128 = .ok (.aload_n 0, 1) := by decide +kernel
theorem xnd_MO_leads_129 : decode xnc_MO_leads 129 = .ok (.getfield 69, 3) := by decide +kernel
theorem xnd_MO_leads_132 : decode xnc_MO_leads 132 = .ok (.idiv, 1) := by decide +kernel
theorem xnd_MO_leads_133 : decode xnc_MO_leads 133 = .ok (.iconst 1, 1) := by decide +kernel
theorem xnd_MO_leads_134 : decode xnc_MO_leads 134 = .ok (.iload 7, 2) := by decide +kernel
theorem xnd_MO_leads_136 : decode xnc_MO_leads 136 = .ok (.invokestatic 77, 3) := by decide +kernel
theorem xnd_MO_leads_139 : decode xnc_MO_leads 139 = .ok (.bipush 7, 2) := by decide +kernel
theorem xnd_MO_leads_141 : decode xnc_MO_leads 141 = .ok (.irem, 1) := by decide +kernel
theorem xnd_MO_leads_142 : decode xnc_MO_leads 142 = .ok (.iadd, 1) := by decide +kernel
theorem xnd_MO_leads_143 : decode xnc_MO_leads 143 = .ok (.ixor, 1) := by decide +kernel
theorem xnd_MO_leads_144 : decode xnc_MO_leads 144 = .ok (.istore 8, 2) := by decide +kernel
theorem xnd_MO_leads_146 : decode xnc_MO_leads 146 = .ok (.aload_n 0, 1) := by decide +kernel
theorem xnd_MO_leads_147 : decode xnc_MO_leads 147 = .ok (.getfield 39, 3) := by decide +kernel
theorem xnd_MO_leads_150 : decode xnc_MO_leads 150 = .ok (.iload 5, 2) := by decide +kernel
theorem xnd_MO_leads_152 : decode xnc_MO_leads 152 = .ok (.aload_n 0, 1) := by decide +kernel
theorem xnd_MO_leads_153 : decode xnc_MO_leads 153 = .ok (.getfield 69, 3) := by decide +kernel
theorem xnd_MO_leads_156 : decode xnc_MO_leads 156 = .ok (.iload 8, 2) := by decide +kernel
theorem xnd_MO_leads_158 : decode xnc_MO_leads 158 = .ok (.imul, 1) := by decide +kernel
theorem xnd_MO_leads_159 : decode xnc_MO_leads 159 = .ok (.iload 6, 2) := by decide +kernel
theorem xnd_MO_leads_161 : decode xnc_MO_leads 161 = .ok (.iadd, 1) := by decide +kernel
theorem xnd_MO_leads_162 : decode xnc_MO_leads 162 = .ok (.iastore, 1) := by decide +kernel
theorem xnd_MO_leads_163 : decode xnc_MO_leads 163 = .ok (.aload_n 0, 1) := by decide +kernel
theorem xnd_MO_leads_164 : decode xnc_MO_leads 164 = .ok (.getfield 7, 3) := by decide +kernel
theorem xnd_MO_leads_167 : decode xnc_MO_leads 167 = .ok (.aload_n 0, 1) := by decide +kernel
theorem xnd_MO_leads_168 : decode xnc_MO_leads 168 = .ok (.getfield 39, 3) := by decide +kernel
theorem xnd_MO_leads_171 : decode xnc_MO_leads 171 = .ok (.iload 5, 2) := by decide +kernel
theorem xnd_MO_leads_173 : decode xnc_MO_leads 173 = .ok (.iaload, 1) := by decide +kernel
theorem xnd_MO_leads_174 : decode xnc_MO_leads 174 = .ok (.iaload, 1) := by decide +kernel
theorem xnd_MO_leads_175 : decode xnc_MO_leads 175 = .ok (.ifCond .ne 7, 3) := by decide +kernel
theorem xnd_MO_leads_178 : decode xnc_MO_leads 178 = .ok (.iconst 1, 1) := by decide +kernel
theorem xnd_MO_leads_179 : decode xnc_MO_leads 179 = .ok (.goto 4, 3) := by decide +kernel
theorem xnd_MO_leads_182 : decode xnc_MO_leads 182 = .ok (.iconst 0, 1) := by decide +kernel
theorem xnd_MO_leads_183 : decode xnc_MO_leads 183 = .ok (.iload 5, 2) := by decide +kernel
theorem xnd_MO_leads_185 : decode xnc_MO_leads 185 = .ok (.iload_n 2, 1) := by decide +kernel
theorem xnd_MO_leads_186 : decode xnc_MO_leads 186 = .ok (.if_icmp .ne 7, 3) := by decide +kernel
theorem xnd_MO_leads_189 : decode xnc_MO_leads 189 = .ok (.iconst 1, 1) := by decide +kernel
theorem xnd_MO_leads_190 : decode xnc_MO_leads 190 = .ok (.goto 4, 3) := by decide +kernel
theorem xnd_MO_leads_193 : decode xnc_MO_leads 193 = .ok (.iconst 0, 1) := by decide +kernel
theorem xnd_MO_leads_194 : decode xnc_MO_leads 194 = .ok (.if_icmp .eq 5, 3) := by decide +kernel
theorem xnd_MO_leads_197 : decode xnc_MO_leads 197 = .ok (.iconst 0, 1) := by decide +kernel
theorem xnd_MO_leads_198 : decode xnc_MO_leads 198 = .ok (.ireturn, 1) := by decide +kernel
theorem xnd_MO_leads_199 : decode xnc_MO_leads 199 = .ok (.iinc 5 1, 3) := by decide +kernel
theorem xnd_MO_leads_202 : decode xnc_MO_leads 202 = .ok (.goto (-172), 3) := by decide +kernel
theorem xnd_MO_leads_205 : decode xnc_MO_leads 205 = .ok (.iconst 1, 1) := by decide +kernel
theorem xnd_MO_leads_206 : decode xnc_MO_leads 206 = .ok (.ireturn, 1) := by decide +kernel
theorem xnd_MO_move_0 : decode xnc_MO_move 0 = .ok (.aload_n 0, 1) := by decide +kernel
theorem xnd_MO_move_1 : decode xnc_MO_move 1 = .ok (.getfield 7, 3) := by decide +kernel
theorem xnd_MO_move_4 : decode xnc_MO_move 4 = .ok (.aload_n 0, 1) := by decide +kernel
theorem xnd_MO_move_5 : decode xnc_MO_move 5 = .ok (.getfield 39, 3) := by decide +kernel
theorem xnd_MO_move_8 : decode xnc_MO_move 8 = .ok (.aload_n 0, 1) := by decide +kernel
theorem xnd_MO_move_9 : decode xnc_MO_move 9 = .ok (.getfield 178, 3) := by decide +kernel
theorem xnd_MO_move_12 : decode xnc_MO_move 12 = .ok (.iaload, 1) := by decide +kernel
theorem xnd_MO_move_13 : decode xnc_MO_move 13 = .ok (.iaload, 1) := by decide +kernel
theorem xnd_MO_move_14 : decode xnc_MO_move 14 = .ok (.iconst 1, 1) := by decide +kernel
theorem xnd_MO_move_15 : decode xnc_MO_move 15 = .ok (.isub, 1) := by decide +kernel
theorem xnd_MO_move_16 : decode xnc_MO_move 16 = .ok (.istore_n 1, 1) := by decide +kernel
theorem xnd_MO_move_17 : decode xnc_MO_move 17 = .ok (.aload_n 0, 1) := by decide +kernel
theorem xnd_MO_move_18 : decode xnc_MO_move 18 = .ok (.getfield 32, 3) := by decide +kernel
theorem xnd_MO_move_21 : decode xnc_MO_move 21 = .ok (.aload_n 0, 1) := by decide +kernel
theorem xnd_MO_move_22 : decode xnc_MO_move 22 = .ok (.getfield 17, 3) := by decide +kernel
theorem xnd_MO_move_25 : decode xnc_MO_move 25 = .ok (.iload_n 1, 1) := by decide +kernel
theorem xnd_MO_move_26 : decode xnc_MO_move 26 = .ok (.iaload, 1) := by decide +kernel
theorem xnd_MO_move_27 : decode xnc_MO_move 27 = .ok (.invokestatic 84, 3) := by decide +kernel
theorem xnd_MO_move_30 : decode xnc_MO_move 30 = .ok (.dup2, 1) := by decide +kernel
theorem xnd_MO_move_31 : decode xnc_MO_move 31 = .ok (.iaload, 1) := by decide +kernel
theorem xnd_MO_move_32 : decode xnc_MO_move 32 = .ok (.iconst 1, 1) := by decide +kernel
theorem xnd_MO_move_33 : decode xnc_MO_move 33 = .ok (.iadd, 1) := by decide +kernel
theorem xnd_MO_move_34 : decode xnc_MO_move 34 = .ok (.iastore, 1) := by decide +kernel
theorem xnd_MO_move_35 : decode xnc_MO_move 35 = .ok (.aload_n 0, 1) := by decide +kernel
theorem xnd_MO_move_36 : decode xnc_MO_move 36 = .ok (.getfield 99, 3) := by decide +kernel
theorem xnd_MO_move_39 : decode xnc_MO_move 39 = .ok (.bipush 6, 2) := by decide +kernel
theorem xnd_MO_move_41 : decode xnc_MO_move 41 = .ok (.if_icmp .ne 29, 3) := by decide +kernel
theorem xnd_MO_move_44 : decode xnc_MO_move 44 = .ok (.aload_n 0, 1) := by decide +kernel
theorem xnd_MO_move_45 : decode xnc_MO_move 45 = .ok (.getfield 7, 3) := by decide +kernel
theorem xnd_MO_move_48 : decode xnc_MO_move 48 = .ok (.aload_n 0, 1) := by decide +kernel
theorem xnd_MO_move_49 : decode xnc_MO_move 49 = .ok (.getfield 39, 3) := by decide +kernel
theorem xnd_MO_move_52 : decode xnc_MO_move 52 = .ok (.aload_n 0, 1) := by decide +kernel
theorem xnd_MO_move_53 : decode xnc_MO_move 53 = .ok (.getfield 178, 3) := by decide +kernel
theorem xnd_MO_move_56 : decode xnc_MO_move 56 = .ok (.iconst 1, 1) := by decide +kernel
theorem xnd_MO_move_57 : decode xnc_MO_move 57 = .ok (.iadd, 1) := by decide +kernel
theorem xnd_MO_move_58 : decode xnc_MO_move 58 = .ok (.iaload, 1) := by decide +kernel
theorem xnd_MO_move_59 : decode xnc_MO_move 59 = .ok (.iload_n 1, 1) := by decide +kernel
theorem xnd_MO_move_60 : decode xnc_MO_move 60 = .ok (.iconst 1, 1) := by decide +kernel
theorem xnd_MO_move_61 : decode xnc_MO_move 61 = .ok (.iadd, 1) := by decide +kernel
theorem xnd_MO_move_62 : decode xnc_MO_move 62 = .ok (.iastore, 1) := by decide +kernel
theorem xnd_MO_move_63 : decode xnc_MO_move 63 = .ok (.aload_n 0, 1) := by decide +kernel
theorem xnd_MO_move_64 : decode xnc_MO_move 64 = .ok (.bipush 7, 2) := by decide +kernel
theorem xnd_MO_move_66 : decode xnc_MO_move 66 = .ok (.putfield 99, 3) := by decide +kernel
theorem xnd_MO_move_69 : decode xnc_MO_move 69 = .ok (.return_, 1) := by decide +kernel
theorem xnd_MO_move_70 : decode xnc_MO_move 70 = .ok (.aload_n 0, 1) := by decide +kernel
theorem xnd_MO_move_71 : decode xnc_MO_move 71 = .ok (.getfield 7, 3) := by decide +kernel
theorem xnd_MO_move_74 : decode xnc_MO_move 74 = .ok (.aload_n 0, 1) := by decide +kernel
theorem xnd_MO_move_75 : decode xnc_MO_move 75 = .ok (.getfield 39, 3) := by decide +kernel
theorem xnd_MO_move_78 : decode xnc_MO_move 78 = .ok (.aload_n 0, 1) := by decide +kernel
theorem xnd_MO_move_79 : decode xnc_MO_move 79 = .ok (.getfield 178, 3) := by decide +kernel
theorem xnd_MO_move_82 : decode xnc_MO_move 82 = .ok (.iaload, 1) := by decide +kernel
theorem xnd_MO_move_83 : decode xnc_MO_move 83 = .ok (.iconst 0, 1) := by decide +kernel
theorem xnd_MO_move_84 : decode xnc_MO_move 84 = .ok (.iastore, 1) := by decide +kernel
theorem xnd_MO_move_85 : decode xnc_MO_move 85 = .ok (.aload_n 0, 1) := by decide +kernel
theorem xnd_MO_move_86 : decode xnc_MO_move 86 = .ok (.dup, 1) := by decide +kernel
theorem xnd_MO_move_87 : decode xnc_MO_move 87 = .ok (.getfield 181, 3) := by decide +kernel
theorem xnd_MO_move_90 : decode xnc_MO_move 90 = .ok (.iconst 1, 1) := by decide +kernel
theorem xnd_MO_move_91 : decode xnc_MO_move 91 = .ok (.iadd, 1) := by decide +kernel
theorem xnd_MO_move_92 : decode xnc_MO_move 92 = .ok (.putfield 181, 3) := by decide +kernel
theorem xnd_MO_move_95 : decode xnc_MO_move 95 = .ok (.aload_n 0, 1) := by decide +kernel
theorem xnd_MO_move_96 : decode xnc_MO_move 96 = .ok (.dup, 1) := by decide +kernel
theorem xnd_MO_move_97 : decode xnc_MO_move 97 = .ok (.getfield 178, 3) := by decide +kernel
theorem xnd_MO_move_100 : decode xnc_MO_move 100 = .ok (.iconst 1, 1) := by decide +kernel
theorem xnd_MO_move_101 : decode xnc_MO_move 101 = .ok (.isub, 1) := by decide +kernel
theorem xnd_MO_move_102 : decode xnc_MO_move 102 = .ok (.putfield 178, 3) := by decide +kernel
theorem xnd_MO_move_105 : decode xnc_MO_move 105 = .ok (.aload_n 0, 1) := by decide +kernel
theorem xnd_MO_move_106 : decode xnc_MO_move 106 = .ok (.aload_n 0, 1) := by decide +kernel
theorem xnd_MO_move_107 : decode xnc_MO_move 107 = .ok (.getfield 178, 3) := by decide +kernel
theorem xnd_MO_move_110 : decode xnc_MO_move 110 = .ok (.ifCond .lt 8, 3) := by decide +kernel
theorem xnd_MO_move_113 : decode xnc_MO_move 113 = .ok (.bipush 6, 2) := by decide +kernel
theorem xnd_MO_move_115 : decode xnc_MO_move 115 = .ok (.goto 5, 3) := by decide +kernel
theorem xnd_MO_move_118 : decode xnc_MO_move 118 = .ok (.bipush 8, 2) := by decide +kernel
theorem xnd_MO_move_120 : decode xnc_MO_move 120 = .ok (.putfield 99, 3) := by decide +kernel
theorem xnd_MO_move_123 : decode xnc_MO_move 123 = .ok (.return_, 1) := by decide +kernel
theorem xnd_MO_enter_0 : decode xnc_MO_enter 0 = .ok (.iconst 0, 1) := by decide +kernel
theorem xnd_MO_enter_1 : decode xnc_MO_enter 1 = .ok (.istore_n 1, 1) := by decide +kernel
theorem xnd_MO_enter_2 : decode xnc_MO_enter 2 = .ok (.iload_n 1, 1) := by decide +kernel
theorem xnd_MO_enter_3 : decode xnc_MO_enter 3 = .ok (.bipush 31, 2) := by decide +kernel
theorem xnd_MO_enter_5 : decode xnc_MO_enter 5 = .ok (.if_icmp .ge 18, 3) := by decide +kernel
theorem xnd_MO_enter_8 : decode xnc_MO_enter 8 = .ok (.aload_n 0, 1) := by decide +kernel
theorem xnd_MO_enter_9 : decode xnc_MO_enter 9 = .ok (.getfield 13, 3) := by decide +kernel
theorem xnd_MO_enter_12 : decode xnc_MO_enter 12 = .ok (.iload_n 1, 1) := by decide +kernel
theorem xnd_MO_enter_13 : decode xnc_MO_enter 13 = .ok (.baload, 1) := by decide +kernel
theorem xnd_MO_enter_14 : decode xnc_MO_enter 14 = .ok (.ifCond .eq 9, 3) := by decide +kernel
theorem xnd_MO_enter_17 : decode xnc_MO_enter 17 = .ok (.iinc 1 1, 3) := by decide +kernel
theorem xnd_MO_enter_20 : decode xnc_MO_enter 20 = .ok (.goto (-18), 3) := by decide +kernel
theorem xnd_MO_enter_23 : decode xnc_MO_enter 23 = .ok (.aload_n 0, 1) := by decide +kernel
theorem xnd_MO_enter_24 : decode xnc_MO_enter 24 = .ok (.getfield 13, 3) := by decide +kernel
theorem xnd_MO_enter_27 : decode xnc_MO_enter 27 = .ok (.iload_n 1, 1) := by decide +kernel
theorem xnd_MO_enter_28 : decode xnc_MO_enter 28 = .ok (.iconst 1, 1) := by decide +kernel
theorem xnd_MO_enter_29 : decode xnc_MO_enter 29 = .ok (.bastore, 1) := by decide +kernel
theorem xnd_MO_enter_30 : decode xnc_MO_enter 30 = .ok (.aload_n 0, 1) := by decide +kernel
theorem xnd_MO_enter_31 : decode xnc_MO_enter 31 = .ok (.getfield 17, 3) := by decide +kernel
theorem xnd_MO_enter_34 : decode xnc_MO_enter 34 = .ok (.iload_n 1, 1) := by decide +kernel
theorem xnd_MO_enter_35 : decode xnc_MO_enter 35 = .ok (.aload_n 0, 1) := by decide +kernel
theorem xnd_MO_enter_36 : decode xnc_MO_enter 36 = .ok (.getfield 105, 3) := by decide +kernel
theorem xnd_MO_enter_39 : decode xnc_MO_enter 39 = .ok (.iastore, 1) := by decide +kernel
theorem xnd_MO_enter_40 : decode xnc_MO_enter 40 = .ok (.aload_n 0, 1) := by decide +kernel
theorem xnd_MO_enter_41 : decode xnc_MO_enter 41 = .ok (.getfield 20, 3) := by decide +kernel
theorem xnd_MO_enter_44 : decode xnc_MO_enter 44 = .ok (.iload_n 1, 1) := by decide +kernel
theorem xnd_MO_enter_45 : decode xnc_MO_enter 45 = .ok (.aload_n 0, 1) := by decide +kernel
theorem xnd_MO_enter_46 : decode xnc_MO_enter 46 = .ok (.getfield 108, 3) := by decide +kernel
theorem xnd_MO_enter_49 : decode xnc_MO_enter 49 = .ok (.iastore, 1) := by decide +kernel
theorem xnd_MO_enter_50 : decode xnc_MO_enter 50 = .ok (.aload_n 0, 1) := by decide +kernel
theorem xnd_MO_enter_51 : decode xnc_MO_enter 51 = .ok (.iload_n 1, 1) := by decide +kernel
theorem xnd_MO_enter_52 : decode xnc_MO_enter 52 = .ok (.invokevirtual 126, 3) := by decide +kernel
theorem xnd_MO_enter_55 : decode xnc_MO_enter 55 = .ok (.aload_n 0, 1) := by decide +kernel
theorem xnd_MO_enter_56 : decode xnc_MO_enter 56 = .ok (.getfield 29, 3) := by decide +kernel
theorem xnd_MO_enter_59 : decode xnc_MO_enter 59 = .ok (.iload_n 1, 1) := by decide +kernel
theorem xnd_MO_enter_60 : decode xnc_MO_enter 60 = .ok (.iconst 0, 1) := by decide +kernel
theorem xnd_MO_enter_61 : decode xnc_MO_enter 61 = .ok (.bastore, 1) := by decide +kernel
theorem xnd_MO_enter_62 : decode xnc_MO_enter 62 = .ok (.aload_n 0, 1) := by decide +kernel
theorem xnd_MO_enter_63 : decode xnc_MO_enter 63 = .ok (.getfield 7, 3) := by decide +kernel
theorem xnd_MO_enter_66 : decode xnc_MO_enter 66 = .ok (.aload_n 0, 1) := by decide +kernel
theorem xnd_MO_enter_67 : decode xnc_MO_enter 67 = .ok (.getfield 39, 3) := by decide +kernel
theorem xnd_MO_enter_70 : decode xnc_MO_enter 70 = .ok (.iconst 0, 1) := by decide +kernel
theorem xnd_MO_enter_71 : decode xnc_MO_enter 71 = .ok (.iaload, 1) := by decide +kernel
theorem xnd_MO_enter_72 : decode xnc_MO_enter 72 = .ok (.iload_n 1, 1) := by decide +kernel
theorem xnd_MO_enter_73 : decode xnc_MO_enter 73 = .ok (.iconst 1, 1) := by decide +kernel
theorem xnd_MO_enter_74 : decode xnc_MO_enter 74 = .ok (.iadd, 1) := by decide +kernel
theorem xnd_MO_enter_75 : decode xnc_MO_enter 75 = .ok (.iastore, 1) := by decide +kernel
theorem xnd_MO_enter_76 : decode xnc_MO_enter 76 = .ok (.aload_n 0, 1) := by decide +kernel
theorem xnd_MO_enter_77 : decode xnc_MO_enter 77 = .ok (.iconst 1, 1) := by decide +kernel
theorem xnd_MO_enter_78 : decode xnc_MO_enter 78 = .ok (.invokevirtual 130, 3) := by decide +kernel
theorem xnd_MO_enter_81 : decode xnc_MO_enter 81 = .ok (.return_, 1) := by decide +kernel
theorem xnd_MO_outcome_0 : decode xnc_MO_outcome 0 = .ok (.aload_n 0, 1) := by decide +kernel
theorem xnd_MO_outcome_1 : decode xnc_MO_outcome 1 = .ok (.getfield 99, 3) := by decide +kernel
theorem xnd_MO_outcome_4 : decode xnc_MO_outcome 4 = .ok (.ifCond .le 7, 3) := by decide +kernel
theorem xnd_MO_outcome_7 : decode xnc_MO_outcome 7 = .ok (.iconst 0, 1) := by decide +kernel
theorem xnd_MO_outcome_8 : decode xnc_MO_outcome 8 = .ok (.goto 7, 3) := by decide +kernel
theorem xnd_MO_outcome_11 : decode xnc_MO_outcome 11 = .ok (.aload_n 0, 1) := by decide +kernel
theorem xnd_MO_outcome_12 : decode xnc_MO_outcome 12 = .ok (.getfield 35, 3) := by decide +kernel
theorem xnd_MO_outcome_15 : decode xnc_MO_outcome 15 = .ok (.ireturn, 1) := by decide +kernel
theorem xnd_MO_get_0 : decode xnc_MO_get 0 = .ok (.iload_n 1, 1) := by decide +kernel
theorem xnd_MO_get_1 : decode xnc_MO_get 1 = .ok (.invokestatic 184, 3) := by decide +kernel
theorem xnd_MO_get_4 : decode xnc_MO_get 4 = .ok (.ifCond .eq 11, 3) := by decide +kernel
theorem xnd_MO_get_7 : decode xnc_MO_get 7 = .ok (.aload_n 0, 1) := by decide +kernel
theorem xnd_MO_get_8 : decode xnc_MO_get 8 = .ok (.iload_n 1, 1) := by decide +kernel
theorem xnd_MO_get_9 : decode xnc_MO_get 9 = .ok (.invokevirtual 187, 3) := by decide +kernel
theorem xnd_MO_get_12 : decode xnc_MO_get 12 = .ok (.ifCond .eq 5, 3) := by decide +kernel
theorem xnd_MO_get_15 : decode xnc_MO_get 15 = .ok (.iconst 0, 1) := by decide +kernel
theorem xnd_MO_get_16 : decode xnc_MO_get 16 = .ok (.ireturn, 1) := by decide +kernel
theorem xnd_MO_get_17 : decode xnc_MO_get 17 = .ok (.aload_n 0, 1) := by decide +kernel
theorem xnd_MO_get_18 : decode xnc_MO_get 18 = .ok (.getfield 45, 3) := by decide +kernel
theorem xnd_MO_get_21 : decode xnc_MO_get 21 = .ok (.iload_n 1, 1) := by decide +kernel
theorem xnd_MO_get_22 : decode xnc_MO_get 22 = .ok (.iload_n 2, 1) := by decide +kernel
theorem xnd_MO_get_23 : decode xnc_MO_get 23 = .ok (.iastore, 1) := by decide +kernel
theorem xnd_MO_get_24 : decode xnc_MO_get 24 = .ok (.aload_n 0, 1) := by decide +kernel
theorem xnd_MO_get_25 : decode xnc_MO_get 25 = .ok (.getfield 51, 3) := by decide +kernel
theorem xnd_MO_get_28 : decode xnc_MO_get 28 = .ok (.iload_n 1, 1) := by decide +kernel
theorem xnd_MO_get_29 : decode xnc_MO_get 29 = .ok (.iconst 0, 1) := by decide +kernel
theorem xnd_MO_get_30 : decode xnc_MO_get 30 = .ok (.iastore, 1) := by decide +kernel
theorem xnd_MO_get_31 : decode xnc_MO_get 31 = .ok (.aload_n 0, 1) := by decide +kernel
theorem xnd_MO_get_32 : decode xnc_MO_get 32 = .ok (.getfield 42, 3) := by decide +kernel
theorem xnd_MO_get_35 : decode xnc_MO_get 35 = .ok (.iload_n 1, 1) := by decide +kernel
theorem xnd_MO_get_36 : decode xnc_MO_get 36 = .ok (.iconst 1, 1) := by decide +kernel
theorem xnd_MO_get_37 : decode xnc_MO_get 37 = .ok (.iastore, 1) := by decide +kernel
theorem xnd_MO_get_38 : decode xnc_MO_get 38 = .ok (.iconst 1, 1) := by decide +kernel
theorem xnd_MO_get_39 : decode xnc_MO_get 39 = .ok (.ireturn, 1) := by decide +kernel
theorem xnd_MO_reader_0 : decode xnc_MO_reader 0 = .ok (.iload_n 0, 1) := by decide +kernel
theorem xnd_MO_reader_1 : decode xnc_MO_reader 1 = .ok (.ifCond .lt 12, 3) := by decide +kernel
theorem xnd_MO_reader_4 : decode xnc_MO_reader 4 = .ok (.iload_n 0, 1) := by decide +kernel
theorem xnd_MO_reader_5 : decode xnc_MO_reader 5 = .ok (.iconst 2, 1) := by decide +kernel
theorem xnd_MO_reader_6 : decode xnc_MO_reader 6 = .ok (.if_icmp .gt 7, 3) := by decide +kernel
theorem xnd_MO_reader_9 : decode xnc_MO_reader 9 = .ok (.iconst 1, 1) := by decide +kernel
theorem xnd_MO_reader_10 : decode xnc_MO_reader 10 = .ok (.goto 4, 3) := by decide +kernel
theorem xnd_MO_reader_13 : decode xnc_MO_reader 13 = .ok (.iconst 0, 1) := by decide +kernel
theorem xnd_MO_reader_14 : decode xnc_MO_reader 14 = .ok (.ireturn, 1) := by decide +kernel
theorem xnd_MO_reading_0 : decode xnc_MO_reading 0 = .ok (.iload_n 1, 1) := by decide +kernel
theorem xnd_MO_reading_1 : decode xnc_MO_reading 1 = .ok (.invokestatic 184, 3) := by decide +kernel
theorem xnd_MO_reading_4 : decode xnc_MO_reading 4 = .ok (.ifCond .eq 28, 3) := by decide +kernel
theorem xnd_MO_reading_7 : decode xnc_MO_reading 7 = .ok (.aload_n 0, 1) := by decide +kernel
theorem xnd_MO_reading_8 : decode xnc_MO_reading 8 = .ok (.getfield 42, 3) := by decide +kernel
theorem xnd_MO_reading_11 : decode xnc_MO_reading 11 = .ok (.iload_n 1, 1) := by decide +kernel
theorem xnd_MO_reading_12 : decode xnc_MO_reading 12 = .ok (.iaload, 1) := by decide +kernel
theorem xnd_MO_reading_13 : decode xnc_MO_reading 13 = .ok (.iconst 1, 1) := by decide +kernel
theorem xnd_MO_reading_14 : decode xnc_MO_reading 14 = .ok (.if_icmp .lt 18, 3) := by decide +kernel
theorem xnd_MO_reading_17 : decode xnc_MO_reading 17 = .ok (.aload_n 0, 1) := by decide +kernel
theorem xnd_MO_reading_18 : decode xnc_MO_reading 18 = .ok (.getfield 42, 3) := by decide +kernel
theorem xnd_MO_reading_21 : decode xnc_MO_reading 21 = .ok (.iload_n 1, 1) := by decide +kernel
theorem xnd_MO_reading_22 : decode xnc_MO_reading 22 = .ok (.iaload, 1) := by decide +kernel
theorem xnd_MO_reading_23 : decode xnc_MO_reading 23 = .ok (.bipush 6, 2) := by decide +kernel
theorem xnd_MO_reading_25 : decode xnc_MO_reading 25 = .ok (.if_icmp .gt 7, 3) := by decide +kernel
theorem xnd_MO_reading_28 : decode xnc_MO_reading 28 = .ok (.iconst 1, 1) := by decide +kernel
theorem xnd_MO_reading_29 : decode xnc_MO_reading 29 = .ok (.goto 4, 3) := by decide +kernel
theorem xnd_MO_reading_32 : decode xnc_MO_reading 32 = .ok (.iconst 0, 1) := by decide +kernel
theorem xnd_MO_reading_33 : decode xnc_MO_reading 33 = .ok (.ireturn, 1) := by decide +kernel
theorem xnd_MO_step_0 : decode xnc_MO_step 0 = .ok (.aload_n 0, 1) := by decide +kernel
theorem xnd_MO_step_1 : decode xnc_MO_step 1 = .ok (.iload_n 1, 1) := by decide +kernel
theorem xnd_MO_step_2 : decode xnc_MO_step 2 = .ok (.invokevirtual 187, 3) := by decide +kernel
theorem xnd_MO_step_5 : decode xnc_MO_step 5 = .ok (.ifCond .ne 5, 3) := by decide +kernel
theorem xnd_MO_step_8 : decode xnc_MO_step 8 = .ok (.iconst (-1), 1) := by decide +kernel
theorem xnd_MO_step_9 : decode xnc_MO_step 9 = .ok (.ireturn, 1) := by decide +kernel
theorem xnd_MO_step_10 : decode xnc_MO_step 10 = .ok (.aload_n 0, 1) := by decide +kernel
theorem xnd_MO_step_11 : decode xnc_MO_step 11 = .ok (.getfield 42, 3) := by decide +kernel
theorem xnd_MO_step_14 : decode xnc_MO_step 14 = .ok (.iload_n 1, 1) := by decide +kernel
theorem xnd_MO_step_15 : decode xnc_MO_step 15 = .ok (.iaload, 1) := by decide +kernel
theorem xnd_MO_step_16 : decode xnc_MO_step 16 = .ok (.istore_n 2, 1) := by decide +kernel
theorem xnd_MO_step_17 : decode xnc_MO_step 17 = .ok (.iload_n 2, 1) := by decide +kernel
theorem xnd_MO_step_18 : decode xnc_MO_step 18 = .ok (.iconst 1, 1) := by decide +kernel
theorem xnd_MO_step_19 : decode xnc_MO_step 19 = .ok (.if_icmp .ne 25, 3) := by decide +kernel
theorem xnd_MO_step_22 : decode xnc_MO_step 22 = .ok (.aload_n 0, 1) := by decide +kernel
theorem xnd_MO_step_23 : decode xnc_MO_step 23 = .ok (.iload_n 1, 1) := by decide +kernel
theorem xnd_MO_step_24 : decode xnc_MO_step 24 = .ok (.aload_n 0, 1) := by decide +kernel
theorem xnd_MO_step_25 : decode xnc_MO_step 25 = .ok (.getfield 32, 3) := by decide +kernel
theorem xnd_MO_step_28 : decode xnc_MO_step 28 = .ok (.aload_n 0, 1) := by decide +kernel
theorem xnd_MO_step_29 : decode xnc_MO_step 29 = .ok (.getfield 45, 3) := by decide +kernel
theorem xnd_MO_step_32 : decode xnc_MO_step 32 = .ok (.iload_n 1, 1) := by decide +kernel
theorem xnd_MO_step_33 : decode xnc_MO_step 33 = .ok (.iaload, 1) := by decide +kernel
theorem xnd_MO_step_34 : decode xnc_MO_step 34 = .ok (.invokestatic 84, 3) := by decide +kernel
theorem xnd_MO_step_37 : decode xnc_MO_step 37 = .ok (.iaload, 1) := by decide +kernel
theorem xnd_MO_step_38 : decode xnc_MO_step 38 = .ok (.invokevirtual 190, 3) := by decide +kernel
theorem xnd_MO_step_41 : decode xnc_MO_step 41 = .ok (.goto 53, 3) := by decide +kernel
theorem xnd_MO_step_44 : decode xnc_MO_step 44 = .ok (.iload_n 2, 1) := by decide +kernel
theorem xnd_MO_step_45 : decode xnc_MO_step 45 = .ok (.iconst 2, 1) := by decide +kernel
theorem xnd_MO_step_46 : decode xnc_MO_step 46 = .ok (.if_icmp .eq 8, 3) := by decide +kernel
theorem xnd_MO_step_49 : decode xnc_MO_step 49 = .ok (.iload_n 2, 1) := by decide +kernel
theorem xnd_MO_step_50 : decode xnc_MO_step 50 = .ok (.iconst 3, 1) := by decide +kernel
theorem xnd_MO_step_51 : decode xnc_MO_step 51 = .ok (.if_icmp .ne 12, 3) := by decide +kernel
theorem xnd_MO_step_54 : decode xnc_MO_step 54 = .ok (.aload_n 0, 1) := by decide +kernel
theorem xnd_MO_step_55 : decode xnc_MO_step 55 = .ok (.iload_n 1, 1) := by decide +kernel
theorem xnd_MO_step_56 : decode xnc_MO_step 56 = .ok (.iload_n 2, 1) := by decide +kernel
theorem xnd_MO_step_57 : decode xnc_MO_step 57 = .ok (.invokevirtual 194, 3) := by decide +kernel
theorem xnd_MO_step_60 : decode xnc_MO_step 60 = .ok (.goto 34, 3) := by decide +kernel
theorem xnd_MO_step_63 : decode xnc_MO_step 63 = .ok (.iload_n 2, 1) := by decide +kernel
theorem xnd_MO_step_64 : decode xnc_MO_step 64 = .ok (.iconst 4, 1) := by decide +kernel
theorem xnd_MO_step_65 : decode xnc_MO_step 65 = .ok (.if_icmp .ne 11, 3) := by decide +kernel
theorem xnd_MO_step_68 : decode xnc_MO_step 68 = .ok (.aload_n 0, 1) := by decide +kernel
theorem xnd_MO_step_69 : decode xnc_MO_step 69 = .ok (.iload_n 1, 1) := by decide +kernel
theorem xnd_MO_step_70 : decode xnc_MO_step 70 = .ok (.invokevirtual 197, 3) := by decide +kernel
theorem xnd_MO_step_73 : decode xnc_MO_step 73 = .ok (.goto 21, 3) := by decide +kernel
theorem xnd_MO_step_76 : decode xnc_MO_step 76 = .ok (.iload_n 2, 1) := by decide +kernel
theorem xnd_MO_step_77 : decode xnc_MO_step 77 = .ok (.iconst 5, 1) := by decide +kernel
theorem xnd_MO_step_78 : decode xnc_MO_step 78 = .ok (.if_icmp .ne 11, 3) := by decide +kernel
theorem xnd_MO_step_81 : decode xnc_MO_step 81 = .ok (.aload_n 0, 1) := by decide +kernel
theorem xnd_MO_step_82 : decode xnc_MO_step 82 = .ok (.iload_n 1, 1) := by decide +kernel
theorem xnd_MO_step_83 : decode xnc_MO_step 83 = .ok (.invokevirtual 200, 3) := by decide +kernel
theorem xnd_MO_step_86 : decode xnc_MO_step 86 = .ok (.goto 8, 3) := by decide +kernel
theorem xnd_MO_step_89 : decode xnc_MO_step 89 = .ok (.aload_n 0, 1) := by decide +kernel
theorem xnd_MO_step_90 : decode xnc_MO_step 90 = .ok (.iload_n 1, 1) := by decide +kernel
theorem xnd_MO_step_91 : decode xnc_MO_step 91 = .ok (.invokevirtual 203, 3) := by decide +kernel
theorem xnd_MO_step_94 : decode xnc_MO_step 94 = .ok (.aload_n 0, 1) := by decide +kernel
theorem xnd_MO_step_95 : decode xnc_MO_step 95 = .ok (.getfield 42, 3) := by decide +kernel
theorem xnd_MO_step_98 : decode xnc_MO_step 98 = .ok (.iload_n 1, 1) := by decide +kernel
theorem xnd_MO_step_99 : decode xnc_MO_step 99 = .ok (.iaload, 1) := by decide +kernel
theorem xnd_MO_step_100 : decode xnc_MO_step 100 = .ok (.ireturn, 1) := by decide +kernel
theorem xnd_MO_keep_0 : decode xnc_MO_keep 0 = .ok (.iload_n 2, 1) := by decide +kernel
theorem xnd_MO_keep_1 : decode xnc_MO_keep 1 = .ok (.iconst 2, 1) := by decide +kernel
theorem xnd_MO_keep_2 : decode xnc_MO_keep 2 = .ok (.irem, 1) := by decide +kernel
theorem xnd_MO_keep_3 : decode xnc_MO_keep 3 = .ok (.ifCond .eq 14, 3) := by decide +kernel
theorem xnd_MO_keep_6 : decode xnc_MO_keep 6 = .ok (.aload_n 0, 1) := by decide +kernel
theorem xnd_MO_keep_7 : decode xnc_MO_keep 7 = .ok (.dup, 1) := by decide +kernel
theorem xnd_MO_keep_8 : decode xnc_MO_keep 8 = .ok (.getfield 206, 3) := by decide +kernel
theorem xnd_MO_keep_11 : decode xnc_MO_keep 11 = .ok (.iconst 1, 1) := by decide +kernel
theorem xnd_MO_keep_12 : decode xnc_MO_keep 12 = .ok (.iadd, 1) := by decide +kernel
theorem xnd_MO_keep_13 : decode xnc_MO_keep 13 = .ok (.putfield 206, 3) := by decide +kernel
theorem xnd_MO_keep_16 : decode xnc_MO_keep 16 = .ok (.return_, 1) := by decide +kernel
theorem xnd_MO_keep_17 : decode xnc_MO_keep 17 = .ok (.aload_n 0, 1) := by decide +kernel
theorem xnd_MO_keep_18 : decode xnc_MO_keep 18 = .ok (.getfield 48, 3) := by decide +kernel
theorem xnd_MO_keep_21 : decode xnc_MO_keep 21 = .ok (.iload_n 1, 1) := by decide +kernel
theorem xnd_MO_keep_22 : decode xnc_MO_keep 22 = .ok (.iload_n 2, 1) := by decide +kernel
theorem xnd_MO_keep_23 : decode xnc_MO_keep 23 = .ok (.iastore, 1) := by decide +kernel
theorem xnd_MO_keep_24 : decode xnc_MO_keep 24 = .ok (.aload_n 0, 1) := by decide +kernel
theorem xnd_MO_keep_25 : decode xnc_MO_keep 25 = .ok (.getfield 42, 3) := by decide +kernel
theorem xnd_MO_keep_28 : decode xnc_MO_keep 28 = .ok (.iload_n 1, 1) := by decide +kernel
theorem xnd_MO_keep_29 : decode xnc_MO_keep 29 = .ok (.iconst 2, 1) := by decide +kernel
theorem xnd_MO_keep_30 : decode xnc_MO_keep 30 = .ok (.iastore, 1) := by decide +kernel
theorem xnd_MO_keep_31 : decode xnc_MO_keep 31 = .ok (.return_, 1) := by decide +kernel
theorem xnd_MO_find_0 : decode xnc_MO_find 0 = .ok (.aload_n 0, 1) := by decide +kernel
theorem xnd_MO_find_1 : decode xnc_MO_find 1 = .ok (.aload_n 0, 1) := by decide +kernel
theorem xnd_MO_find_2 : decode xnc_MO_find 2 = .ok (.getfield 45, 3) := by decide +kernel
theorem xnd_MO_find_5 : decode xnc_MO_find 5 = .ok (.iload_n 1, 1) := by decide +kernel
theorem xnd_MO_find_6 : decode xnc_MO_find 6 = .ok (.iaload, 1) := by decide +kernel
theorem xnd_MO_find_7 : decode xnc_MO_find 7 = .ok (.iload_n 2, 1) := by decide +kernel
theorem xnd_MO_find_8 : decode xnc_MO_find 8 = .ok (.iconst 2, 1) := by decide +kernel
theorem xnd_MO_find_9 : decode xnc_MO_find 9 = .ok (.isub, 1) := by decide +kernel
theorem xnd_MO_find_10 : decode xnc_MO_find 10 = .ok (.invokevirtual 93, 3) := by decide +kernel
theorem xnd_MO_find_13 : decode xnc_MO_find 13 = .ok (.istore_n 3, 1) := by decide +kernel
theorem xnd_MO_find_14 : decode xnc_MO_find 14 = .ok (.aload_n 0, 1) := by decide +kernel
theorem xnd_MO_find_15 : decode xnc_MO_find 15 = .ok (.getfield 54, 3) := by decide +kernel
theorem xnd_MO_find_18 : decode xnc_MO_find 18 = .ok (.iload_n 1, 1) := by decide +kernel
theorem xnd_MO_find_19 : decode xnc_MO_find 19 = .ok (.iload_n 3, 1) := by decide +kernel
theorem xnd_MO_find_20 : decode xnc_MO_find 20 = .ok (.ifCond .ge 7, 3) := by decide +kernel
theorem xnd_MO_find_23 : decode xnc_MO_find 23 = .ok (.iconst 0, 1) := by decide +kernel
theorem xnd_MO_find_24 : decode xnc_MO_find 24 = .ok (.goto 9, 3) := by decide +kernel
theorem xnd_MO_find_27 : decode xnc_MO_find 27 = .ok (.aload_n 0, 1) := by decide +kernel
theorem xnd_MO_find_28 : decode xnc_MO_find 28 = .ok (.getfield 7, 3) := by decide +kernel
theorem xnd_MO_find_31 : decode xnc_MO_find 31 = .ok (.iload_n 3, 1) := by decide +kernel
theorem xnd_MO_find_32 : decode xnc_MO_find 32 = .ok (.iaload, 1) := by decide +kernel
theorem xnd_MO_find_33 : decode xnc_MO_find 33 = .ok (.iastore, 1) := by decide +kernel
theorem xnd_MO_find_34 : decode xnc_MO_find 34 = .ok (.aload_n 0, 1) := by decide +kernel
theorem xnd_MO_find_35 : decode xnc_MO_find 35 = .ok (.getfield 42, 3) := by decide +kernel
theorem xnd_MO_find_38 : decode xnc_MO_find 38 = .ok (.iload_n 1, 1) := by decide +kernel
theorem xnd_MO_find_39 : decode xnc_MO_find 39 = .ok (.iload_n 3, 1) := by decide +kernel
theorem xnd_MO_find_40 : decode xnc_MO_find 40 = .ok (.ifCond .lt 7, 3) := by decide +kernel
theorem xnd_MO_find_43 : decode xnc_MO_find 43 = .ok (.iconst 4, 1) := by decide +kernel
theorem xnd_MO_find_44 : decode xnc_MO_find 44 = .ok (.goto 13, 3) := by decide +kernel
theorem xnd_MO_find_47 : decode xnc_MO_find 47 = .ok (.iload_n 2, 1) := by decide +kernel
theorem xnd_MO_find_48 : decode xnc_MO_find 48 = .ok (.iconst 2, 1) := by decide +kernel
theorem xnd_MO_find_49 : decode xnc_MO_find 49 = .ok (.if_icmp .ne 7, 3) := by decide +kernel
theorem xnd_MO_find_52 : decode xnc_MO_find 52 = .ok (.iconst 3, 1) := by decide +kernel
theorem xnd_MO_find_53 : decode xnc_MO_find 53 = .ok (.goto 4, 3) := by decide +kernel
theorem xnd_MO_find_56 : decode xnc_MO_find 56 = .ok (.iconst 5, 1) := by decide +kernel
theorem xnd_MO_find_57 : decode xnc_MO_find 57 = .ok (.iastore, 1) := by decide +kernel
theorem xnd_MO_find_58 : decode xnc_MO_find 58 = .ok (.return_, 1) := by decide +kernel
theorem xnd_MO_copy_0 : decode xnc_MO_copy 0 = .ok (.aload_n 0, 1) := by decide +kernel
theorem xnd_MO_copy_1 : decode xnc_MO_copy 1 = .ok (.getfield 54, 3) := by decide +kernel
theorem xnd_MO_copy_4 : decode xnc_MO_copy 4 = .ok (.iload_n 1, 1) := by decide +kernel
theorem xnd_MO_copy_5 : decode xnc_MO_copy 5 = .ok (.iaload, 1) := by decide +kernel
theorem xnd_MO_copy_6 : decode xnc_MO_copy 6 = .ok (.iconst 1, 1) := by decide +kernel
theorem xnd_MO_copy_7 : decode xnc_MO_copy 7 = .ok (.isub, 1) := by decide +kernel
theorem xnd_MO_copy_8 : decode xnc_MO_copy 8 = .ok (.istore_n 2, 1) := by decide +kernel
theorem xnd_MO_copy_9 : decode xnc_MO_copy 9 = .ok (.aload_n 0, 1) := by decide +kernel
theorem xnd_MO_copy_10 : decode xnc_MO_copy 10 = .ok (.getfield 57, 3) := by decide +kernel
theorem xnd_MO_copy_13 : decode xnc_MO_copy 13 = .ok (.iload_n 1, 1) := by decide +kernel
theorem xnd_MO_copy_14 : decode xnc_MO_copy 14 = .ok (.aload_n 0, 1) := by decide +kernel
theorem xnd_MO_copy_15 : decode xnc_MO_copy 15 = .ok (.getfield 20, 3) := by decide +kernel
theorem xnd_MO_copy_18 : decode xnc_MO_copy 18 = .ok (.iload_n 2, 1) := by decide +kernel
theorem xnd_MO_copy_19 : decode xnc_MO_copy 19 = .ok (.iaload, 1) := by decide +kernel
theorem xnd_MO_copy_20 : decode xnc_MO_copy 20 = .ok (.iastore, 1) := by decide +kernel
theorem xnd_MO_copy_21 : decode xnc_MO_copy 21 = .ok (.aload_n 0, 1) := by decide +kernel
theorem xnd_MO_copy_22 : decode xnc_MO_copy 22 = .ok (.getfield 60, 3) := by decide +kernel
theorem xnd_MO_copy_25 : decode xnc_MO_copy 25 = .ok (.iload_n 1, 1) := by decide +kernel
theorem xnd_MO_copy_26 : decode xnc_MO_copy 26 = .ok (.aload_n 0, 1) := by decide +kernel
theorem xnd_MO_copy_27 : decode xnc_MO_copy 27 = .ok (.getfield 23, 3) := by decide +kernel
theorem xnd_MO_copy_30 : decode xnc_MO_copy 30 = .ok (.iload_n 2, 1) := by decide +kernel
theorem xnd_MO_copy_31 : decode xnc_MO_copy 31 = .ok (.iaload, 1) := by decide +kernel
theorem xnd_MO_copy_32 : decode xnc_MO_copy 32 = .ok (.iastore, 1) := by decide +kernel
theorem xnd_MO_copy_33 : decode xnc_MO_copy 33 = .ok (.aload_n 0, 1) := by decide +kernel
theorem xnd_MO_copy_34 : decode xnc_MO_copy 34 = .ok (.getfield 63, 3) := by decide +kernel
theorem xnd_MO_copy_37 : decode xnc_MO_copy 37 = .ok (.iload_n 1, 1) := by decide +kernel
theorem xnd_MO_copy_38 : decode xnc_MO_copy 38 = .ok (.aload_n 0, 1) := by decide +kernel
theorem xnd_MO_copy_39 : decode xnc_MO_copy 39 = .ok (.getfield 26, 3) := by decide +kernel
theorem xnd_MO_copy_42 : decode xnc_MO_copy 42 = .ok (.iload_n 2, 1) := by decide +kernel
theorem xnd_MO_copy_43 : decode xnc_MO_copy 43 = .ok (.iaload, 1) := by decide +kernel
theorem xnd_MO_copy_44 : decode xnc_MO_copy 44 = .ok (.iastore, 1) := by decide +kernel
theorem xnd_MO_copy_45 : decode xnc_MO_copy 45 = .ok (.aload_n 0, 1) := by decide +kernel
theorem xnd_MO_copy_46 : decode xnc_MO_copy 46 = .ok (.getfield 42, 3) := by decide +kernel
theorem xnd_MO_copy_49 : decode xnc_MO_copy 49 = .ok (.iload_n 1, 1) := by decide +kernel
theorem xnd_MO_copy_50 : decode xnc_MO_copy 50 = .ok (.iconst 5, 1) := by decide +kernel
theorem xnd_MO_copy_51 : decode xnc_MO_copy 51 = .ok (.iastore, 1) := by decide +kernel
theorem xnd_MO_copy_52 : decode xnc_MO_copy 52 = .ok (.return_, 1) := by decide +kernel
theorem xnd_MO_check_0 : decode xnc_MO_check 0 = .ok (.aload_n 0, 1) := by decide +kernel
theorem xnd_MO_check_1 : decode xnc_MO_check 1 = .ok (.getfield 32, 3) := by decide +kernel
theorem xnd_MO_check_4 : decode xnc_MO_check 4 = .ok (.aload_n 0, 1) := by decide +kernel
theorem xnd_MO_check_5 : decode xnc_MO_check 5 = .ok (.getfield 45, 3) := by decide +kernel
theorem xnd_MO_check_8 : decode xnc_MO_check 8 = .ok (.iload_n 1, 1) := by decide +kernel
theorem xnd_MO_check_9 : decode xnc_MO_check 9 = .ok (.iaload, 1) := by decide +kernel
theorem xnd_MO_check_10 : decode xnc_MO_check 10 = .ok (.invokestatic 84, 3) := by decide +kernel
theorem xnd_MO_check_13 : decode xnc_MO_check 13 = .ok (.iaload, 1) := by decide +kernel
theorem xnd_MO_check_14 : decode xnc_MO_check 14 = .ok (.aload_n 0, 1) := by decide +kernel
theorem xnd_MO_check_15 : decode xnc_MO_check 15 = .ok (.getfield 48, 3) := by decide +kernel
theorem xnd_MO_check_18 : decode xnc_MO_check 18 = .ok (.iload_n 1, 1) := by decide +kernel
theorem xnd_MO_check_19 : decode xnc_MO_check 19 = .ok (.iaload, 1) := by decide +kernel
theorem xnd_MO_check_20 : decode xnc_MO_check 20 = .ok (.if_icmp .eq 46, 3) := by decide +kernel
theorem xnd_MO_check_23 : decode xnc_MO_check 23 = .ok (.aload_n 0, 1) := by decide +kernel
theorem xnd_MO_check_24 : decode xnc_MO_check 24 = .ok (.dup, 1) := by decide +kernel
theorem xnd_MO_check_25 : decode xnc_MO_check 25 = .ok (.getfield 209, 3) := by decide +kernel
theorem xnd_MO_check_28 : decode xnc_MO_check 28 = .ok (.iconst 1, 1) := by decide +kernel
theorem xnd_MO_check_29 : decode xnc_MO_check 29 = .ok (.iadd, 1) := by decide +kernel
theorem xnd_MO_check_30 : decode xnc_MO_check 30 = .ok (.putfield 209, 3) := by decide +kernel
theorem xnd_MO_check_33 : decode xnc_MO_check 33 = .ok (.aload_n 0, 1) := by decide +kernel
theorem xnd_MO_check_34 : decode xnc_MO_check 34 = .ok (.getfield 51, 3) := by decide +kernel
theorem xnd_MO_check_37 : decode xnc_MO_check 37 = .ok (.iload_n 1, 1) := by decide +kernel
theorem xnd_MO_check_38 : decode xnc_MO_check 38 = .ok (.dup2, 1) := by decide +kernel
theorem xnd_MO_check_39 : decode xnc_MO_check 39 = .ok (.iaload, 1) := by decide +kernel
theorem xnd_MO_check_40 : decode xnc_MO_check 40 = .ok (.iconst 1, 1) := by decide +kernel
theorem xnd_MO_check_41 : decode xnc_MO_check 41 = .ok (.iadd, 1) := by decide +kernel
theorem xnd_MO_check_42 : decode xnc_MO_check 42 = .ok (.iastore, 1) := by decide +kernel
theorem xnd_MO_check_43 : decode xnc_MO_check 43 = .ok (.aload_n 0, 1) := by decide +kernel
theorem xnd_MO_check_44 : decode xnc_MO_check 44 = .ok (.getfield 42, 3) := by decide +kernel
theorem xnd_MO_check_47 : decode xnc_MO_check 47 = .ok (.iload_n 1, 1) := by decide +kernel
theorem xnd_MO_check_48 : decode xnc_MO_check 48 = .ok (.aload_n 0, 1) := by decide +kernel
theorem xnd_MO_check_49 : decode xnc_MO_check 49 = .ok (.getfield 51, 3) := by decide +kernel
theorem xnd_MO_check_52 : decode xnc_MO_check 52 = .ok (.iload_n 1, 1) := by decide +kernel
theorem xnd_MO_check_53 : decode xnc_MO_check 53 = .ok (.iaload, 1) := by decide +kernel
theorem xnd_MO_check_54 : decode xnc_MO_check 54 = .ok (.iconst 3, 1) := by decide +kernel
theorem xnd_MO_check_55 : decode xnc_MO_check 55 = .ok (.if_icmp .lt 8, 3) := by decide +kernel
theorem xnd_MO_check_58 : decode xnc_MO_check 58 = .ok (.bipush 6, 2) := by decide +kernel
theorem xnd_MO_check_60 : decode xnc_MO_check 60 = .ok (.goto 4, 3) := by decide +kernel
theorem xnd_MO_check_63 : decode xnc_MO_check 63 = .ok (.iconst 1, 1) := by decide +kernel
theorem xnd_MO_check_64 : decode xnc_MO_check 64 = .ok (.iastore, 1) := by decide +kernel
theorem xnd_MO_check_65 : decode xnc_MO_check 65 = .ok (.return_, 1) := by decide +kernel
theorem xnd_MO_check_66 : decode xnc_MO_check 66 = .ok (.aload_n 0, 1) := by decide +kernel
theorem xnd_MO_check_67 : decode xnc_MO_check 67 = .ok (.getfield 54, 3) := by decide +kernel
theorem xnd_MO_check_70 : decode xnc_MO_check 70 = .ok (.iload_n 1, 1) := by decide +kernel
theorem xnd_MO_check_71 : decode xnc_MO_check 71 = .ok (.iaload, 1) := by decide +kernel
theorem xnd_MO_check_72 : decode xnc_MO_check 72 = .ok (.ifCond .le 20, 3) := by decide +kernel
theorem xnd_MO_check_75 : decode xnc_MO_check 75 = .ok (.aload_n 0, 1) := by decide +kernel
theorem xnd_MO_check_76 : decode xnc_MO_check 76 = .ok (.aload_n 0, 1) := by decide +kernel
theorem xnd_MO_check_77 : decode xnc_MO_check 77 = .ok (.getfield 63, 3) := by decide +kernel
theorem xnd_MO_check_80 : decode xnc_MO_check 80 = .ok (.iload_n 1, 1) := by decide +kernel
theorem xnd_MO_check_81 : decode xnc_MO_check 81 = .ok (.iaload, 1) := by decide +kernel
theorem xnd_MO_check_82 : decode xnc_MO_check 82 = .ok (.invokevirtual 151, 3) := by decide +kernel
theorem xnd_MO_check_85 : decode xnc_MO_check 85 = .ok (.ifCond .ne 7, 3) := by decide +kernel
theorem xnd_MO_check_88 : decode xnc_MO_check 88 = .ok (.iconst 1, 1) := by decide +kernel
theorem xnd_MO_check_89 : decode xnc_MO_check 89 = .ok (.goto 4, 3) := by decide +kernel
theorem xnd_MO_check_92 : decode xnc_MO_check 92 = .ok (.iconst 0, 1) := by decide +kernel
theorem xnd_MO_check_93 : decode xnc_MO_check 93 = .ok (.istore_n 2, 1) := by decide +kernel
theorem xnd_MO_check_94 : decode xnc_MO_check 94 = .ok (.iload_n 2, 1) := by decide +kernel
theorem xnd_MO_check_95 : decode xnc_MO_check 95 = .ok (.ifCond .eq 17, 3) := by decide +kernel
theorem xnd_MO_check_98 : decode xnc_MO_check 98 = .ok (.aload_n 0, 1) := by decide +kernel
theorem xnd_MO_check_99 : decode xnc_MO_check 99 = .ok (.getfield 29, 3) := by decide +kernel
theorem xnd_MO_check_102 : decode xnc_MO_check 102 = .ok (.aload_n 0, 1) := by decide +kernel
theorem xnd_MO_check_103 : decode xnc_MO_check 103 = .ok (.getfield 54, 3) := by decide +kernel
theorem xnd_MO_check_106 : decode xnc_MO_check 106 = .ok (.iload_n 1, 1) := by decide +kernel
theorem xnd_MO_check_107 : decode xnc_MO_check 107 = .ok (.iaload, 1) := by decide +kernel
theorem xnd_MO_check_108 : decode xnc_MO_check 108 = .ok (.iconst 1, 1) := by decide +kernel
theorem xnd_MO_check_109 : decode xnc_MO_check 109 = .ok (.isub, 1) := by decide +kernel
theorem xnd_MO_check_110 : decode xnc_MO_check 110 = .ok (.iconst 1, 1) := by decide +kernel
theorem xnd_MO_check_111 : decode xnc_MO_check 111 = .ok (.bastore, 1) := by decide +kernel
theorem xnd_MO_check_112 : decode xnc_MO_check 112 = .ok (.aload_n 0, 1) := by decide +kernel
theorem xnd_MO_check_113 : decode xnc_MO_check 113 = .ok (.getfield 42, 3) := by decide +kernel
theorem xnd_MO_check_116 : decode xnc_MO_check 116 = .ok (.iload_n 1, 1) := by decide +kernel
theorem xnd_MO_check_117 : decode xnc_MO_check 117 = .ok (.iload_n 2, 1) := by decide +kernel
theorem xnd_MO_check_118 : decode xnc_MO_check 118 = .ok (.ifCond .eq 8, 3) := by decide +kernel
theorem xnd_MO_check_121 : decode xnc_MO_check 121 = .ok (.bipush 7, 2) := by decide +kernel
theorem xnd_MO_check_123 : decode xnc_MO_check 123 = .ok (.goto 5, 3) := by decide +kernel
theorem xnd_MO_check_126 : decode xnc_MO_check 126 = .ok (.bipush 8, 2) := by decide +kernel
theorem xnd_MO_check_128 : decode xnc_MO_check 128 = .ok (.iastore, 1) := by decide +kernel
theorem xnd_MO_check_129 : decode xnc_MO_check 129 = .ok (.return_, 1) := by decide +kernel
theorem xnd_MO_locked_0 : decode xnc_MO_locked 0 = .ok (.aload_n 0, 1) := by decide +kernel
theorem xnd_MO_locked_1 : decode xnc_MO_locked 1 = .ok (.getfield 99, 3) := by decide +kernel
theorem xnd_MO_locked_4 : decode xnc_MO_locked 4 = .ok (.ifCond .le 14, 3) := by decide +kernel
theorem xnd_MO_locked_7 : decode xnc_MO_locked 7 = .ok (.aload_n 0, 1) := by decide +kernel
theorem xnd_MO_locked_8 : decode xnc_MO_locked 8 = .ok (.dup, 1) := by decide +kernel
theorem xnd_MO_locked_9 : decode xnc_MO_locked 9 = .ok (.getfield 206, 3) := by decide +kernel
theorem xnd_MO_locked_12 : decode xnc_MO_locked 12 = .ok (.iconst 1, 1) := by decide +kernel
theorem xnd_MO_locked_13 : decode xnc_MO_locked 13 = .ok (.iadd, 1) := by decide +kernel
theorem xnd_MO_locked_14 : decode xnc_MO_locked 14 = .ok (.putfield 206, 3) := by decide +kernel
theorem xnd_MO_locked_17 : decode xnc_MO_locked 17 = .ok (.return_, 1) := by decide +kernel
theorem xnd_MO_locked_18 : decode xnc_MO_locked 18 = .ok (.aload_n 0, 1) := by decide +kernel
theorem xnd_MO_locked_19 : decode xnc_MO_locked 19 = .ok (.aload_n 0, 1) := by decide +kernel
theorem xnd_MO_locked_20 : decode xnc_MO_locked 20 = .ok (.getfield 45, 3) := by decide +kernel
theorem xnd_MO_locked_23 : decode xnc_MO_locked 23 = .ok (.iload_n 1, 1) := by decide +kernel
theorem xnd_MO_locked_24 : decode xnc_MO_locked 24 = .ok (.iaload, 1) := by decide +kernel
theorem xnd_MO_locked_25 : decode xnc_MO_locked 25 = .ok (.invokevirtual 148, 3) := by decide +kernel
theorem xnd_MO_locked_28 : decode xnc_MO_locked 28 = .ok (.istore_n 2, 1) := by decide +kernel
theorem xnd_MO_locked_29 : decode xnc_MO_locked 29 = .ok (.iload_n 2, 1) := by decide +kernel
theorem xnd_MO_locked_30 : decode xnc_MO_locked 30 = .ok (.ifCond .ge 7, 3) := by decide +kernel
theorem xnd_MO_locked_33 : decode xnc_MO_locked 33 = .ok (.iconst (-1), 1) := by decide +kernel
theorem xnd_MO_locked_34 : decode xnc_MO_locked 34 = .ok (.goto 11, 3) := by decide +kernel
theorem xnd_MO_locked_37 : decode xnc_MO_locked 37 = .ok (.aload_n 0, 1) := by decide +kernel
theorem xnd_MO_locked_38 : decode xnc_MO_locked 38 = .ok (.getfield 7, 3) := by decide +kernel
theorem xnd_MO_locked_41 : decode xnc_MO_locked 41 = .ok (.iload_n 2, 1) := by decide +kernel
theorem xnd_MO_locked_42 : decode xnc_MO_locked 42 = .ok (.iaload, 1) := by decide +kernel
theorem xnd_MO_locked_43 : decode xnc_MO_locked 43 = .ok (.iconst 1, 1) := by decide +kernel
theorem xnd_MO_locked_44 : decode xnc_MO_locked 44 = .ok (.isub, 1) := by decide +kernel
theorem xnd_MO_locked_45 : decode xnc_MO_locked 45 = .ok (.istore_n 3, 1) := by decide +kernel
theorem xnd_MO_locked_46 : decode xnc_MO_locked 46 = .ok (.iload_n 3, 1) := by decide +kernel
theorem xnd_MO_locked_47 : decode xnc_MO_locked 47 = .ok (.ifCond .lt 20, 3) := by decide +kernel
theorem xnd_MO_locked_50 : decode xnc_MO_locked 50 = .ok (.aload_n 0, 1) := by decide +kernel
theorem xnd_MO_locked_51 : decode xnc_MO_locked 51 = .ok (.aload_n 0, 1) := by decide +kernel
theorem xnd_MO_locked_52 : decode xnc_MO_locked 52 = .ok (.getfield 26, 3) := by decide +kernel
theorem xnd_MO_locked_55 : decode xnc_MO_locked 55 = .ok (.iload_n 3, 1) := by decide +kernel
theorem xnd_MO_locked_56 : decode xnc_MO_locked 56 = .ok (.iaload, 1) := by decide +kernel
theorem xnd_MO_locked_57 : decode xnc_MO_locked 57 = .ok (.invokevirtual 151, 3) := by decide +kernel
theorem xnd_MO_locked_60 : decode xnc_MO_locked 60 = .ok (.ifCond .ne 7, 3) := by decide +kernel
theorem xnd_MO_locked_63 : decode xnc_MO_locked 63 = .ok (.iconst 1, 1) := by decide +kernel
theorem xnd_MO_locked_64 : decode xnc_MO_locked 64 = .ok (.goto 4, 3) := by decide +kernel
theorem xnd_MO_locked_67 : decode xnc_MO_locked 67 = .ok (.iconst 0, 1) := by decide +kernel
theorem xnd_MO_locked_68 : decode xnc_MO_locked 68 = .ok (.istore 4, 2) := by decide +kernel
theorem xnd_MO_locked_70 : decode xnc_MO_locked 70 = .ok (.iload 4, 2) := by decide +kernel
theorem xnd_MO_locked_72 : decode xnc_MO_locked 72 = .ok (.ifCond .eq 34, 3) := by decide +kernel
theorem xnd_MO_locked_75 : decode xnc_MO_locked 75 = .ok (.aload_n 0, 1) := by decide +kernel
theorem xnd_MO_locked_76 : decode xnc_MO_locked 76 = .ok (.getfield 57, 3) := by decide +kernel
theorem xnd_MO_locked_79 : decode xnc_MO_locked 79 = .ok (.iload_n 1, 1) := by decide +kernel
theorem xnd_MO_locked_80 : decode xnc_MO_locked 80 = .ok (.aload_n 0, 1) := by decide +kernel
theorem xnd_MO_locked_81 : decode xnc_MO_locked 81 = .ok (.getfield 20, 3) := by decide +kernel
theorem xnd_MO_locked_84 : decode xnc_MO_locked 84 = .ok (.iload_n 3, 1) := by decide +kernel
theorem xnd_MO_locked_85 : decode xnc_MO_locked 85 = .ok (.iaload, 1) := by decide +kernel
theorem xnd_MO_locked_86 : decode xnc_MO_locked 86 = .ok (.iastore, 1) := by decide +kernel
theorem xnd_MO_locked_87 : decode xnc_MO_locked 87 = .ok (.aload_n 0, 1) := by decide +kernel
theorem xnd_MO_locked_88 : decode xnc_MO_locked 88 = .ok (.getfield 60, 3) := by decide +kernel
theorem xnd_MO_locked_91 : decode xnc_MO_locked 91 = .ok (.iload_n 1, 1) := by decide +kernel
theorem xnd_MO_locked_92 : decode xnc_MO_locked 92 = .ok (.aload_n 0, 1) := by decide +kernel
theorem xnd_MO_locked_93 : decode xnc_MO_locked 93 = .ok (.getfield 23, 3) := by decide +kernel
theorem xnd_MO_locked_96 : decode xnc_MO_locked 96 = .ok (.iload_n 3, 1) := by decide +kernel
theorem xnd_MO_locked_97 : decode xnc_MO_locked 97 = .ok (.iaload, 1) := by decide +kernel
theorem xnd_MO_locked_98 : decode xnc_MO_locked 98 = .ok (.iastore, 1) := by decide +kernel
theorem xnd_MO_locked_99 : decode xnc_MO_locked 99 = .ok (.aload_n 0, 1) := by decide +kernel
theorem xnd_MO_locked_100 : decode xnc_MO_locked 100 = .ok (.getfield 29, 3) := by decide +kernel
theorem xnd_MO_locked_103 : decode xnc_MO_locked 103 = .ok (.iload_n 3, 1) := by decide +kernel
theorem xnd_MO_locked_104 : decode xnc_MO_locked 104 = .ok (.iconst 1, 1) := by decide +kernel
theorem xnd_MO_locked_105 : decode xnc_MO_locked 105 = .ok (.bastore, 1) := by decide +kernel
theorem xnd_MO_locked_106 : decode xnc_MO_locked 106 = .ok (.aload_n 0, 1) := by decide +kernel
theorem xnd_MO_locked_107 : decode xnc_MO_locked 107 = .ok (.getfield 42, 3) := by decide +kernel
theorem xnd_MO_locked_110 : decode xnc_MO_locked 110 = .ok (.iload_n 1, 1) := by decide +kernel
theorem xnd_MO_locked_111 : decode xnc_MO_locked 111 = .ok (.iload 4, 2) := by decide +kernel
theorem xnd_MO_locked_113 : decode xnc_MO_locked 113 = .ok (.ifCond .eq 8, 3) := by decide +kernel
theorem xnd_MO_locked_116 : decode xnc_MO_locked 116 = .ok (.bipush 7, 2) := by decide +kernel
theorem xnd_MO_locked_118 : decode xnc_MO_locked 118 = .ok (.goto 5, 3) := by decide +kernel
theorem xnd_MO_locked_121 : decode xnc_MO_locked 121 = .ok (.bipush 8, 2) := by decide +kernel
theorem xnd_MO_locked_123 : decode xnc_MO_locked 123 = .ok (.iastore, 1) := by decide +kernel
theorem xnd_MO_locked_124 : decode xnc_MO_locked 124 = .ok (.return_, 1) := by decide +kernel
theorem xnd_MO_state_0 : decode xnc_MO_state 0 = .ok (.iload_n 1, 1) := by decide +kernel
theorem xnd_MO_state_1 : decode xnc_MO_state 1 = .ok (.invokestatic 184, 3) := by decide +kernel
theorem xnd_MO_state_4 : decode xnc_MO_state 4 = .ok (.ifCond .eq 12, 3) := by decide +kernel
theorem xnd_MO_state_7 : decode xnc_MO_state 7 = .ok (.aload_n 0, 1) := by decide +kernel
theorem xnd_MO_state_8 : decode xnc_MO_state 8 = .ok (.getfield 42, 3) := by decide +kernel
theorem xnd_MO_state_11 : decode xnc_MO_state 11 = .ok (.iload_n 1, 1) := by decide +kernel
theorem xnd_MO_state_12 : decode xnc_MO_state 12 = .ok (.iaload, 1) := by decide +kernel
theorem xnd_MO_state_13 : decode xnc_MO_state 13 = .ok (.goto 4, 3) := by decide +kernel
theorem xnd_MO_state_16 : decode xnc_MO_state 16 = .ok (.iconst (-1), 1) := by decide +kernel
theorem xnd_MO_state_17 : decode xnc_MO_state 17 = .ok (.ireturn, 1) := by decide +kernel
theorem xnd_MO_value_0 : decode xnc_MO_value 0 = .ok (.iload_n 1, 1) := by decide +kernel
theorem xnd_MO_value_1 : decode xnc_MO_value 1 = .ok (.invokestatic 184, 3) := by decide +kernel
theorem xnd_MO_value_4 : decode xnc_MO_value 4 = .ok (.ifCond .eq 23, 3) := by decide +kernel
theorem xnd_MO_value_7 : decode xnc_MO_value 7 = .ok (.aload_n 0, 1) := by decide +kernel
theorem xnd_MO_value_8 : decode xnc_MO_value 8 = .ok (.getfield 42, 3) := by decide +kernel
theorem xnd_MO_value_11 : decode xnc_MO_value 11 = .ok (.iload_n 1, 1) := by decide +kernel
theorem xnd_MO_value_12 : decode xnc_MO_value 12 = .ok (.iaload, 1) := by decide +kernel
theorem xnd_MO_value_13 : decode xnc_MO_value 13 = .ok (.bipush 7, 2) := by decide +kernel
theorem xnd_MO_value_15 : decode xnc_MO_value 15 = .ok (.if_icmp .ne 12, 3) := by decide +kernel
theorem xnd_MO_value_18 : decode xnc_MO_value 18 = .ok (.aload_n 0, 1) := by decide +kernel
theorem xnd_MO_value_19 : decode xnc_MO_value 19 = .ok (.getfield 57, 3) := by decide +kernel
theorem xnd_MO_value_22 : decode xnc_MO_value 22 = .ok (.iload_n 1, 1) := by decide +kernel
theorem xnd_MO_value_23 : decode xnc_MO_value 23 = .ok (.iaload, 1) := by decide +kernel
theorem xnd_MO_value_24 : decode xnc_MO_value 24 = .ok (.goto 4, 3) := by decide +kernel
theorem xnd_MO_value_27 : decode xnc_MO_value 27 = .ok (.iconst 0, 1) := by decide +kernel
theorem xnd_MO_value_28 : decode xnc_MO_value 28 = .ok (.ireturn, 1) := by decide +kernel
theorem xnd_MO_token_0 : decode xnc_MO_token 0 = .ok (.iload_n 1, 1) := by decide +kernel
theorem xnd_MO_token_1 : decode xnc_MO_token 1 = .ok (.invokestatic 184, 3) := by decide +kernel
theorem xnd_MO_token_4 : decode xnc_MO_token 4 = .ok (.ifCond .eq 23, 3) := by decide +kernel
theorem xnd_MO_token_7 : decode xnc_MO_token 7 = .ok (.aload_n 0, 1) := by decide +kernel
theorem xnd_MO_token_8 : decode xnc_MO_token 8 = .ok (.getfield 42, 3) := by decide +kernel
theorem xnd_MO_token_11 : decode xnc_MO_token 11 = .ok (.iload_n 1, 1) := by decide +kernel
theorem xnd_MO_token_12 : decode xnc_MO_token 12 = .ok (.iaload, 1) := by decide +kernel
theorem xnd_MO_token_13 : decode xnc_MO_token 13 = .ok (.bipush 7, 2) := by decide +kernel
theorem xnd_MO_token_15 : decode xnc_MO_token 15 = .ok (.if_icmp .ne 12, 3) := by decide +kernel
theorem xnd_MO_token_18 : decode xnc_MO_token 18 = .ok (.aload_n 0, 1) := by decide +kernel
theorem xnd_MO_token_19 : decode xnc_MO_token 19 = .ok (.getfield 60, 3) := by decide +kernel
theorem xnd_MO_token_22 : decode xnc_MO_token 22 = .ok (.iload_n 1, 1) := by decide +kernel
theorem xnd_MO_token_23 : decode xnc_MO_token 23 = .ok (.iaload, 1) := by decide +kernel
theorem xnd_MO_token_24 : decode xnc_MO_token 24 = .ok (.goto 4, 3) := by decide +kernel
theorem xnd_MO_token_27 : decode xnc_MO_token 27 = .ok (.iconst 0, 1) := by decide +kernel
theorem xnd_MO_token_28 : decode xnc_MO_token 28 = .ok (.ireturn, 1) := by decide +kernel
theorem xnd_MO_pass_0 : decode xnc_MO_pass 0 = .ok (.iload_n 1, 1) := by decide +kernel
theorem xnd_MO_pass_1 : decode xnc_MO_pass 1 = .ok (.iconst 1, 1) := by decide +kernel
theorem xnd_MO_pass_2 : decode xnc_MO_pass 2 = .ok (.if_icmp .lt 10, 3) := by decide +kernel
theorem xnd_MO_pass_5 : decode xnc_MO_pass 5 = .ok (.iload_n 1, 1) := by decide +kernel
theorem xnd_MO_pass_6 : decode xnc_MO_pass 6 = .ok (.sipush 1000, 3) := by decide +kernel
theorem xnd_MO_pass_9 : decode xnc_MO_pass 9 = .ok (.if_icmp .le 5, 3) := by decide +kernel
theorem xnd_MO_pass_12 : decode xnc_MO_pass 12 = .ok (.iconst 0, 1) := by decide +kernel
theorem xnd_MO_pass_13 : decode xnc_MO_pass 13 = .ok (.ireturn, 1) := by decide +kernel
theorem xnd_MO_pass_14 : decode xnc_MO_pass 14 = .ok (.aload_n 0, 1) := by decide +kernel
theorem xnd_MO_pass_15 : decode xnc_MO_pass 15 = .ok (.dup, 1) := by decide +kernel
theorem xnd_MO_pass_16 : decode xnc_MO_pass 16 = .ok (.getfield 96, 3) := by decide +kernel
theorem xnd_MO_pass_19 : decode xnc_MO_pass 19 = .ok (.iload_n 1, 1) := by decide +kernel
theorem xnd_MO_pass_20 : decode xnc_MO_pass 20 = .ok (.iadd, 1) := by decide +kernel
theorem xnd_MO_pass_21 : decode xnc_MO_pass 21 = .ok (.putfield 96, 3) := by decide +kernel
theorem xnd_MO_pass_24 : decode xnc_MO_pass 24 = .ok (.iconst 1, 1) := by decide +kernel
theorem xnd_MO_pass_25 : decode xnc_MO_pass 25 = .ok (.ireturn, 1) := by decide +kernel
theorem xnd_MO_at_0 : decode xnc_MO_at 0 = .ok (.iload_n 1, 1) := by decide +kernel
theorem xnd_MO_at_1 : decode xnc_MO_at 1 = .ok (.ifCond .lt 25, 3) := by decide +kernel
theorem xnd_MO_at_4 : decode xnc_MO_at 4 = .ok (.iload_n 1, 1) := by decide +kernel
theorem xnd_MO_at_5 : decode xnc_MO_at 5 = .ok (.bipush 8, 2) := by decide +kernel
theorem xnd_MO_at_7 : decode xnc_MO_at 7 = .ok (.aload_n 0, 1) := by decide +kernel
theorem xnd_MO_at_8 : decode xnc_MO_at 8 = .ok (.getfield 69, 3) := by decide +kernel
theorem xnd_MO_at_11 : decode xnc_MO_at 11 = .ok (.imul, 1) := by decide +kernel
theorem xnd_MO_at_12 : decode xnc_MO_at 12 = .ok (.if_icmp .ge 14, 3) := by decide +kernel
theorem xnd_MO_at_15 : decode xnc_MO_at 15 = .ok (.aload_n 0, 1) := by decide +kernel
theorem xnd_MO_at_16 : decode xnc_MO_at 16 = .ok (.getfield 7, 3) := by decide +kernel
theorem xnd_MO_at_19 : decode xnc_MO_at 19 = .ok (.iload_n 1, 1) := by decide +kernel
theorem xnd_MO_at_20 : decode xnc_MO_at 20 = .ok (.iaload, 1) := by decide +kernel
theorem xnd_MO_at_21 : decode xnc_MO_at 21 = .ok (.iconst 1, 1) := by decide +kernel
theorem xnd_MO_at_22 : decode xnc_MO_at 22 = .ok (.isub, 1) := by decide +kernel
theorem xnd_MO_at_23 : decode xnc_MO_at 23 = .ok (.goto 4, 3) := by decide +kernel
theorem xnd_MO_at_26 : decode xnc_MO_at 26 = .ok (.iconst (-1), 1) := by decide +kernel
theorem xnd_MO_at_27 : decode xnc_MO_at 27 = .ok (.ireturn, 1) := by decide +kernel
theorem xnd_MO_used_0 : decode xnc_MO_used 0 = .ok (.iload_n 1, 1) := by decide +kernel
theorem xnd_MO_used_1 : decode xnc_MO_used 1 = .ok (.ifCond .lt 24, 3) := by decide +kernel
theorem xnd_MO_used_4 : decode xnc_MO_used 4 = .ok (.iload_n 1, 1) := by decide +kernel
theorem xnd_MO_used_5 : decode xnc_MO_used 5 = .ok (.aload_n 0, 1) := by decide +kernel
theorem xnd_MO_used_6 : decode xnc_MO_used 6 = .ok (.getfield 66, 3) := by decide +kernel
theorem xnd_MO_used_9 : decode xnc_MO_used 9 = .ok (.if_icmp .ge 16, 3) := by decide +kernel
theorem xnd_MO_used_12 : decode xnc_MO_used 12 = .ok (.aload_n 0, 1) := by decide +kernel
theorem xnd_MO_used_13 : decode xnc_MO_used 13 = .ok (.getfield 13, 3) := by decide +kernel
theorem xnd_MO_used_16 : decode xnc_MO_used 16 = .ok (.iload_n 1, 1) := by decide +kernel
theorem xnd_MO_used_17 : decode xnc_MO_used 17 = .ok (.baload, 1) := by decide +kernel
theorem xnd_MO_used_18 : decode xnc_MO_used 18 = .ok (.ifCond .eq 7, 3) := by decide +kernel
theorem xnd_MO_used_21 : decode xnc_MO_used 21 = .ok (.iconst 1, 1) := by decide +kernel
theorem xnd_MO_used_22 : decode xnc_MO_used 22 = .ok (.goto 4, 3) := by decide +kernel
theorem xnd_MO_used_25 : decode xnc_MO_used 25 = .ok (.iconst 0, 1) := by decide +kernel
theorem xnd_MO_used_26 : decode xnc_MO_used 26 = .ok (.ireturn, 1) := by decide +kernel
theorem xnd_MO_item_0 : decode xnc_MO_item 0 = .ok (.iload_n 1, 1) := by decide +kernel
theorem xnd_MO_item_1 : decode xnc_MO_item 1 = .ok (.ifCond .lt 20, 3) := by decide +kernel
theorem xnd_MO_item_4 : decode xnc_MO_item 4 = .ok (.iload_n 1, 1) := by decide +kernel
theorem xnd_MO_item_5 : decode xnc_MO_item 5 = .ok (.aload_n 0, 1) := by decide +kernel
theorem xnd_MO_item_6 : decode xnc_MO_item 6 = .ok (.getfield 66, 3) := by decide +kernel
theorem xnd_MO_item_9 : decode xnc_MO_item 9 = .ok (.if_icmp .ge 12, 3) := by decide +kernel
theorem xnd_MO_item_12 : decode xnc_MO_item 12 = .ok (.aload_n 0, 1) := by decide +kernel
theorem xnd_MO_item_13 : decode xnc_MO_item 13 = .ok (.getfield 13, 3) := by decide +kernel
theorem xnd_MO_item_16 : decode xnc_MO_item 16 = .ok (.iload_n 1, 1) := by decide +kernel
theorem xnd_MO_item_17 : decode xnc_MO_item 17 = .ok (.baload, 1) := by decide +kernel
theorem xnd_MO_item_18 : decode xnc_MO_item 18 = .ok (.ifCond .ne 5, 3) := by decide +kernel
theorem xnd_MO_item_21 : decode xnc_MO_item 21 = .ok (.iconst 0, 1) := by decide +kernel
theorem xnd_MO_item_22 : decode xnc_MO_item 22 = .ok (.ireturn, 1) := by decide +kernel
theorem xnd_MO_item_23 : decode xnc_MO_item 23 = .ok (.iload_n 2, 1) := by decide +kernel
theorem xnd_MO_item_24 : decode xnc_MO_item 24 = .ok (.tableswitch 79 0 4 #[36, 43, 50, 57, 64], 36) := by decide +kernel
theorem xnd_MO_item_60 : decode xnc_MO_item 60 = .ok (.aload_n 0, 1) := by decide +kernel
theorem xnd_MO_item_61 : decode xnc_MO_item 61 = .ok (.getfield 17, 3) := by decide +kernel
theorem xnd_MO_item_64 : decode xnc_MO_item 64 = .ok (.iload_n 1, 1) := by decide +kernel
theorem xnd_MO_item_65 : decode xnc_MO_item 65 = .ok (.iaload, 1) := by decide +kernel
theorem xnd_MO_item_66 : decode xnc_MO_item 66 = .ok (.ireturn, 1) := by decide +kernel
theorem xnd_MO_item_67 : decode xnc_MO_item 67 = .ok (.aload_n 0, 1) := by decide +kernel
theorem xnd_MO_item_68 : decode xnc_MO_item 68 = .ok (.getfield 20, 3) := by decide +kernel
theorem xnd_MO_item_71 : decode xnc_MO_item 71 = .ok (.iload_n 1, 1) := by decide +kernel
theorem xnd_MO_item_72 : decode xnc_MO_item 72 = .ok (.iaload, 1) := by decide +kernel
theorem xnd_MO_item_73 : decode xnc_MO_item 73 = .ok (.ireturn, 1) := by decide +kernel
theorem xnd_MO_item_74 : decode xnc_MO_item 74 = .ok (.aload_n 0, 1) := by decide +kernel
theorem xnd_MO_item_75 : decode xnc_MO_item 75 = .ok (.getfield 23, 3) := by decide +kernel
theorem xnd_MO_item_78 : decode xnc_MO_item 78 = .ok (.iload_n 1, 1) := by decide +kernel
theorem xnd_MO_item_79 : decode xnc_MO_item 79 = .ok (.iaload, 1) := by decide +kernel
theorem xnd_MO_item_80 : decode xnc_MO_item 80 = .ok (.ireturn, 1) := by decide +kernel
theorem xnd_MO_item_81 : decode xnc_MO_item 81 = .ok (.aload_n 0, 1) := by decide +kernel
theorem xnd_MO_item_82 : decode xnc_MO_item 82 = .ok (.getfield 26, 3) := by decide +kernel
theorem xnd_MO_item_85 : decode xnc_MO_item 85 = .ok (.iload_n 1, 1) := by decide +kernel
theorem xnd_MO_item_86 : decode xnc_MO_item 86 = .ok (.iaload, 1) := by decide +kernel
theorem xnd_MO_item_87 : decode xnc_MO_item 87 = .ok (.ireturn, 1) := by decide +kernel
theorem xnd_MO_item_88 : decode xnc_MO_item 88 = .ok (.aload_n 0, 1) := by decide +kernel
theorem xnd_MO_item_89 : decode xnc_MO_item 89 = .ok (.getfield 29, 3) := by decide +kernel
theorem xnd_MO_item_92 : decode xnc_MO_item 92 = .ok (.iload_n 1, 1) := by decide +kernel
theorem xnd_MO_item_93 : decode xnc_MO_item 93 = .ok (.baload, 1) := by decide +kernel
theorem xnd_MO_item_94 : decode xnc_MO_item 94 = .ok (.ifCond .eq 7, 3) := by decide +kernel
theorem xnd_MO_item_97 : decode xnc_MO_item 97 = .ok (.iconst 1, 1) := by decide +kernel
theorem xnd_MO_item_98 : decode xnc_MO_item 98 = .ok (.goto 4, 3) := by decide +kernel
theorem xnd_MO_item_101 : decode xnc_MO_item 101 = .ok (.iconst 0, 1) := by decide +kernel
theorem xnd_MO_item_102 : decode xnc_MO_item 102 = .ok (.ireturn, 1) := by decide +kernel
theorem xnd_MO_item_103 : decode xnc_MO_item 103 = .ok (.iconst 0, 1) := by decide +kernel
theorem xnd_MO_item_104 : decode xnc_MO_item 104 = .ok (.ireturn, 1) := by decide +kernel
theorem xnd_MO_version_0 : decode xnc_MO_version 0 = .ok (.iload_n 1, 1) := by decide +kernel
theorem xnd_MO_version_1 : decode xnc_MO_version 1 = .ok (.ifCond .lt 17, 3) := by decide +kernel
theorem xnd_MO_version_4 : decode xnc_MO_version 4 = .ok (.iload_n 1, 1) := by decide +kernel
theorem xnd_MO_version_5 : decode xnc_MO_version 5 = .ok (.iconst 3, 1) := by decide +kernel
theorem xnd_MO_version_6 : decode xnc_MO_version 6 = .ok (.if_icmp .gt 12, 3) := by decide +kernel
theorem xnd_MO_version_9 : decode xnc_MO_version 9 = .ok (.aload_n 0, 1) := by decide +kernel
theorem xnd_MO_version_10 : decode xnc_MO_version 10 = .ok (.getfield 32, 3) := by decide +kernel
theorem xnd_MO_version_13 : decode xnc_MO_version 13 = .ok (.iload_n 1, 1) := by decide +kernel
theorem xnd_MO_version_14 : decode xnc_MO_version 14 = .ok (.iaload, 1) := by decide +kernel
theorem xnd_MO_version_15 : decode xnc_MO_version 15 = .ok (.goto 4, 3) := by decide +kernel
theorem xnd_MO_version_18 : decode xnc_MO_version 18 = .ok (.iconst (-1), 1) := by decide +kernel
theorem xnd_MO_version_19 : decode xnc_MO_version 19 = .ok (.ireturn, 1) := by decide +kernel
theorem xnd_MO_count_0 : decode xnc_MO_count 0 = .ok (.iload_n 1, 1) := by decide +kernel
theorem xnd_MO_count_1 : decode xnc_MO_count 1 = .ok (.tableswitch 105 0 9 #[55, 60, 65, 70, 75, 80, 85, 90, 95, 100], 55) := by decide +kernel
theorem xnd_MO_count_56 : decode xnc_MO_count 56 = .ok (.aload_n 0, 1) := by decide +kernel
theorem xnd_MO_count_57 : decode xnc_MO_count 57 = .ok (.invokevirtual 161, 3) := by decide +kernel
theorem xnd_MO_count_60 : decode xnc_MO_count 60 = .ok (.ireturn, 1) := by decide +kernel
theorem xnd_MO_count_61 : decode xnc_MO_count 61 = .ok (.aload_n 0, 1) := by decide +kernel
theorem xnd_MO_count_62 : decode xnc_MO_count 62 = .ok (.getfield 168, 3) := by decide +kernel
theorem xnd_MO_count_65 : decode xnc_MO_count 65 = .ok (.ireturn, 1) := by decide +kernel
theorem xnd_MO_count_66 : decode xnc_MO_count 66 = .ok (.aload_n 0, 1) := by decide +kernel
theorem xnd_MO_count_67 : decode xnc_MO_count 67 = .ok (.getfield 181, 3) := by decide +kernel
theorem xnd_MO_count_70 : decode xnc_MO_count 70 = .ok (.ireturn, 1) := by decide +kernel
theorem xnd_MO_count_71 : decode xnc_MO_count 71 = .ok (.aload_n 0, 1) := by decide +kernel
theorem xnd_MO_count_72 : decode xnc_MO_count 72 = .ok (.getfield 209, 3) := by decide +kernel
theorem xnd_MO_count_75 : decode xnc_MO_count 75 = .ok (.ireturn, 1) := by decide +kernel
theorem xnd_MO_count_76 : decode xnc_MO_count 76 = .ok (.aload_n 0, 1) := by decide +kernel
theorem xnd_MO_count_77 : decode xnc_MO_count 77 = .ok (.getfield 206, 3) := by decide +kernel
theorem xnd_MO_count_80 : decode xnc_MO_count 80 = .ok (.ireturn, 1) := by decide +kernel
theorem xnd_MO_count_81 : decode xnc_MO_count 81 = .ok (.aload_n 0, 1) := by decide +kernel
theorem xnd_MO_count_82 : decode xnc_MO_count 82 = .ok (.getfield 90, 3) := by decide +kernel
theorem xnd_MO_count_85 : decode xnc_MO_count 85 = .ok (.ireturn, 1) := by decide +kernel
theorem xnd_MO_count_86 : decode xnc_MO_count 86 = .ok (.aload_n 0, 1) := by decide +kernel
theorem xnd_MO_count_87 : decode xnc_MO_count 87 = .ok (.getfield 158, 3) := by decide +kernel
theorem xnd_MO_count_90 : decode xnc_MO_count 90 = .ok (.ireturn, 1) := by decide +kernel
theorem xnd_MO_count_91 : decode xnc_MO_count 91 = .ok (.aload_n 0, 1) := by decide +kernel
theorem xnd_MO_count_92 : decode xnc_MO_count 92 = .ok (.getfield 96, 3) := by decide +kernel
theorem xnd_MO_count_95 : decode xnc_MO_count 95 = .ok (.ireturn, 1) := by decide +kernel
theorem xnd_MO_count_96 : decode xnc_MO_count 96 = .ok (.aload_n 0, 1) := by decide +kernel
theorem xnd_MO_count_97 : decode xnc_MO_count 97 = .ok (.getfield 165, 3) := by decide +kernel
theorem xnd_MO_count_100 : decode xnc_MO_count 100 = .ok (.ireturn, 1) := by decide +kernel
theorem xnd_MO_count_101 : decode xnc_MO_count 101 = .ok (.aload_n 0, 1) := by decide +kernel
theorem xnd_MO_count_102 : decode xnc_MO_count 102 = .ok (.getfield 145, 3) := by decide +kernel
theorem xnd_MO_count_105 : decode xnc_MO_count 105 = .ok (.ireturn, 1) := by decide +kernel
theorem xnd_MO_count_106 : decode xnc_MO_count 106 = .ok (.iconst (-1), 1) := by decide +kernel
theorem xnd_MO_count_107 : decode xnc_MO_count 107 = .ok (.ireturn, 1) := by decide +kernel
end
section
/-! The search for a path, without the machine: codes of paths, the invariant of the breadth first search. -/
def xb_lt (a b : Nat × Nat) : Prop := a.1 < b.1 ∨ (a.1 = b.1 ∧ a.2 < b.2)
def xb_le (a b : Nat × Nat) : Prop := a.1 < b.1 ∨ (a.1 = b.1 ∧ a.2 ≤ b.2)
/-- the last place of the path of d moves with code x -/
def xb_at (w : Nat) (sb nb : Nat → Nat) : Nat → Nat → Nat
  | 0, x => w * sb (x / w) + x % w
  | d + 1, x => w * nb (xb_at w sb nb d (x / w)) + x % w
/-- all places of that path but the last are occupied -/
def xb_ok (w : Nat) (sb nb : Nat → Nat) (oc : Nat → Prop) : Nat → Nat → Prop
  | 0, _ => True
  | d + 1, x => xb_ok w sb nb oc d (x / w) ∧ oc (xb_at w sb nb d (x / w))
def xb_up (f : Nat → Nat) (k v : Nat) : Nat → Nat := fun j => if j = k then v else f j
theorem xb_up_s {f : Nat → Nat} {k v : Nat} : xb_up f k v k = v := by simp [xb_up]
theorem xb_up_n {f : Nat → Nat} {k v j : Nat} (h : j ≠ k) : xb_up f k v j = f j := by simp [xb_up, h]
/-- how many of the first N are not -1 -/
def xb_cnt (f : Nat → Int32) : Nat → Nat
  | 0 => 0
  | n + 1 => xb_cnt f n + (if f n = -1 then 0 else 1)
theorem xb_cnt_le (f : Nat → Int32) : ∀ n, xb_cnt f n ≤ n
  | 0 => Nat.le_refl _
  | n + 1 => by
    have := xb_cnt_le f n
    rw [xb_cnt]
    split <;> omega
theorem xb_cnt_lt {f : Nat → Int32} : ∀ {n p : Nat}, p < n → f p = -1 → xb_cnt f n < n
  | n + 1, p, hp, hf => by
    have h1 := xb_cnt_le f n
    rw [xb_cnt]
    by_cases hpn : p = n
    · subst hpn
      rw [if_pos hf]
      omega
    · have h2 := xb_cnt_lt (f := f) (n := n) (p := p) (by omega) hf
      split <;> omega
theorem xb_cnt_out {f : Nat → Int32} {p : Nat} {v : Int32} : ∀ {n : Nat}, n ≤ p → xb_cnt (upd f p v) n = xb_cnt f n
  | 0, _ => rfl
  | n + 1, h => by
    rw [xb_cnt, xb_cnt, xb_cnt_out (n := n) (by omega), pk_un (by omega)]
theorem xb_cnt_set {f : Nat → Int32} {p : Nat} {v : Int32} (hv : v ≠ -1) : ∀ {n : Nat}, p < n → f p = -1 → xb_cnt (upd f p v) n = xb_cnt f n + 1
  | n + 1, hp, hf => by
    rw [xb_cnt, xb_cnt]
    by_cases hpn : p = n
    · subst hpn
      rw [xb_cnt_out (Nat.le_refl _), pk_us, if_neg hv, if_pos hf]
    · rw [xb_cnt_set hv (n := n) (by omega) hf, pk_un (Ne.symm hpn)]
      omega
theorem xb_nIm1 {n : Nat} (h : n < 2 ^ 31) : nI n ≠ -1 := by
  intro e
  have h1 := nI_toInt h
  rw [e] at h1
  have h2 : ((-1 : Int32)).toInt = -1 := by decide
  omega
theorem xb_inj {a b : Nat} (ha : a < 2 ^ 31) (hb : b < 2 ^ 31) (h : nI a = nI b) : a = b := (nI_eq ha hb).mp h
section XBI
variable (w : Nat) (sb nb : Nat → Nat) (oc : Nat → Prop)
/-- what is known of a place that has been met -/
def xb_ent (hp : Nat) (Bf Dp : Nat → Int32) (q dep cd : Nat → Nat) (p : Nat) : Prop :=
  p < 8 * w ∧ Dp p = nI (dep p) ∧ dep p ≤ 4 ∧ p = xb_at w sb nb (dep p) (cd p) ∧ xb_ok w sb nb oc (dep p) (cd p) ∧ cd p < 2 * w * w ^ dep p ∧
  ∀ d, dep p = d + 1 → ∃ i, i < hp ∧ q i = xb_at w sb nb d (cd p / w) ∧ dep (q i) = d ∧ cd (q i) = cd p / w ∧ Bf p = nI (q i)
def xb_inv (hp he m : Nat) (Q Bf Dp : Nat → Int32) (q dep cd : Nat → Nat) : Prop :=
  (∀ i, i < m → Q i = nI (q i) ∧ xb_ent w sb nb oc hp Bf Dp q dep cd (q i)) ∧
  (∀ p, p < 8 * w → Dp p = -1 ∨ ∃ i, i < m ∧ q i = p) ∧
  (∀ i j, i < j → j < m → xb_lt (dep (q i), cd (q i)) (dep (q j), cd (q j))) ∧
  (∀ i, i < he → oc (q i) ∧ (dep (q i) < 4 → ∀ s, s < w → ∃ j, j < m ∧ q j = w * nb (q i) + s ∧ xb_le (dep (q j), cd (q j)) (dep (q i) + 1, cd (q i) * w + s))) ∧
  hp ≤ m ∧ he ≤ m ∧ xb_cnt Dp (8 * w) = m
variable {w sb nb oc}
theorem xb_inv.room {hp he m : Nat} {Q Bf Dp : Nat → Int32} {q dep cd : Nat → Nat} (I : xb_inv w sb nb oc hp he m Q Bf Dp q dep cd) {p : Nat} (hp8 : p < 8 * w) (hd : Dp p = -1) : m < 8 * w := by
  have := xb_cnt_lt hp8 hd
  rw [I.2.2.2.2.2.2] at this
  exact this
theorem xb_inv.le {hp he m : Nat} {Q Bf Dp : Nat → Int32} {q dep cd : Nat → Nat} (I : xb_inv w sb nb oc hp he m Q Bf Dp q dep cd) : m ≤ 8 * w := by
  have := xb_cnt_le Dp (8 * w)
  rw [I.2.2.2.2.2.2] at this
  exact this
theorem xb_inv.more {hp hp' he m : Nat} {Q Bf Dp : Nat → Int32} {q dep cd : Nat → Nat} (I : xb_inv w sb nb oc hp he m Q Bf Dp q dep cd) (h : hp ≤ hp') (h' : hp' ≤ m) : xb_inv w sb nb oc hp' he m Q Bf Dp q dep cd := by
  refine ⟨fun i hi => ⟨(I.1 i hi).1, ?_⟩, I.2.1, I.2.2.1, I.2.2.2.1, h', I.2.2.2.2.2.1, I.2.2.2.2.2.2⟩
  obtain ⟨e1, e2, e3, e4, e5, e6, e7⟩ := (I.1 i hi).2
  refine ⟨e1, e2, e3, e4, e5, e6, fun d hd => ?_⟩
  obtain ⟨i', h1, h2⟩ := e7 d hd
  exact ⟨i', by omega, h2⟩
/-- one place more is met -/
theorem xb_visit {hp he m : Nat} {Q Bf Dp : Nat → Int32} {q dep cd : Nat → Nat} (hw : 8 * w < 2 ^ 31) (I : xb_inv w sb nb oc hp he m Q Bf Dp q dep cd) {p d x : Nat} {f : Int32} (hp8 : p < 8 * w) (hDp : Dp p = -1) (hd : d ≤ 4) (hpx : p = xb_at w sb nb d x) (hok : xb_ok w sb nb oc d x) (hx : x < 2 * w * w ^ d)
    (hpar : ∀ d', d = d' + 1 → ∃ i, i < hp ∧ q i = xb_at w sb nb d' (x / w) ∧ dep (q i) = d' ∧ cd (q i) = x / w ∧ f = nI (q i)) (hkey : ∀ i, i < m → xb_lt (dep (q i), cd (q i)) (d, x)) :
    xb_inv w sb nb oc hp he (m + 1) (upd Q m (nI p)) (upd Bf p f) (upd Dp p (nI d)) (xb_up q m p) (xb_up dep p d) (xb_up cd p x) := by
  have hne : ∀ i, i < m → q i ≠ p := by
    intro i hi e
    have h1 := (I.1 i hi).2.2.1
    rw [e, hDp] at h1
    have h2 := (I.1 i hi).2.2.2.1
    rw [e] at h2
    exact xb_nIm1 (by omega) h1.symm
  have hq : ∀ i, i < m → xb_up q m p i = q i := fun i hi => xb_up_n (by omega)
  have hdp : ∀ i, i < m → xb_up dep p d (q i) = dep (q i) := fun i hi => xb_up_n (hne i hi)
  have hcd : ∀ i, i < m → xb_up cd p x (q i) = cd (q i) := fun i hi => xb_up_n (hne i hi)
  obtain ⟨I1, I2, I3, I4, I5, I6, I7⟩ := I
  refine ⟨fun i hi => ?_, fun p' hp' => ?_, fun i j hij hj => ?_, fun i hi => ?_, by omega, by omega, ?_⟩
  · by_cases him : i = m
    · subst him
      rw [pk_us, xb_up_s]
      refine ⟨rfl, hp8, ?_, ?_, ?_, ?_, ?_, ?_⟩
      · rw [pk_us, xb_up_s]
      · rw [xb_up_s]; exact hd
      · rw [xb_up_s, xb_up_s]; exact hpx
      · rw [xb_up_s, xb_up_s]; exact hok
      · rw [xb_up_s, xb_up_s]; exact hx
      · intro d' hd'
        rw [xb_up_s] at hd'
        obtain ⟨i', a1, a2, a3, a4, a5⟩ := hpar d' hd'
        have hi' : i' < i := by omega
        refine ⟨i', a1, ?_, ?_, ?_, ?_⟩
        · rw [hq i' hi', xb_up_s]; exact a2
        · rw [hq i' hi', hdp i' hi']; exact a3
        · rw [hq i' hi', hcd i' hi', xb_up_s]; exact a4
        · rw [pk_us, hq i' hi']; exact a5
    · have hi' : i < m := by omega
      obtain ⟨a0, a1, a2, a3, a4, a5, a6, a7⟩ := I1 i hi'
      rw [pk_un him, hq i hi']
      refine ⟨a0, a1, ?_, ?_, ?_, ?_, ?_, ?_⟩
      · rw [pk_un (hne i hi'), hdp i hi']; exact a2
      · rw [hdp i hi']; exact a3
      · rw [hdp i hi', hcd i hi']; exact a4
      · rw [hdp i hi', hcd i hi']; exact a5
      · rw [hdp i hi', hcd i hi']; exact a6
      · intro d' hd'
        rw [hdp i hi'] at hd'
        obtain ⟨i', b1, b2, b3, b4, b5⟩ := a7 d' hd'
        have hi2 : i' < m := by omega
        refine ⟨i', b1, ?_, ?_, ?_, ?_⟩
        · rw [hq i' hi2, hcd i hi']; exact b2
        · rw [hq i' hi2, hdp i' hi2]; exact b3
        · rw [hq i' hi2, hcd i' hi2, hcd i hi']; exact b4
        · rw [pk_un (hne i hi'), hq i' hi2]; exact b5
  · by_cases hpp : p' = p
    · subst hpp
      exact Or.inr ⟨m, by omega, xb_up_s⟩
    · rw [pk_un hpp]
      rcases I2 p' hp' with h | ⟨i, h1, h2⟩
      · exact Or.inl h
      · exact Or.inr ⟨i, by omega, by rw [hq i h1]; exact h2⟩
  · by_cases hjm : j = m
    · subst hjm
      rw [hq i hij, xb_up_s, hdp i hij, hcd i hij, xb_up_s, xb_up_s]
      exact hkey i hij
    · have hj' : j < m := by omega
      have hi' : i < m := by omega
      rw [hq i hi', hq j hj', hdp i hi', hcd i hi', hdp j hj', hcd j hj']
      exact I3 i j hij hj'
  · have hi' : i < m := by omega
    rw [hq i hi', hdp i hi', hcd i hi']
    refine ⟨(I4 i hi).1, fun h4 s hs => ?_⟩
    obtain ⟨j, b1, b2, b3⟩ := (I4 i hi).2 h4 s hs
    exact ⟨j, by omega, by rw [hq j b1]; exact b2, by rw [hq j b1, hdp j b1, hcd j b1]; exact b3⟩
  · rw [xb_cnt_set (xb_nIm1 (by omega)) hp8 hDp, I7]
/-- what is new leaves what was there -/
def xb_ext (m m' : Nat) (q dep cd q' dep' cd' : Nat → Nat) : Prop := m ≤ m' ∧ ∀ i, i < m → q' i = q i ∧ dep' (q i) = dep (q i) ∧ cd' (q i) = cd (q i)
theorem xb_ext.rf {m : Nat} {q dep cd : Nat → Nat} : xb_ext m m q dep cd q dep cd := ⟨Nat.le_refl _, fun _ _ => ⟨rfl, rfl, rfl⟩⟩
theorem xb_ext.tr {m m' m'' : Nat} {q dep cd q' dep' cd' q'' dep'' cd'' : Nat → Nat} (h : xb_ext m m' q dep cd q' dep' cd') (h' : xb_ext m' m'' q' dep' cd' q'' dep'' cd'') : xb_ext m m'' q dep cd q'' dep'' cd'' := by
  refine ⟨Nat.le_trans h.1 h'.1, fun i hi => ?_⟩
  obtain ⟨a1, a2, a3⟩ := h.2 i hi
  obtain ⟨b1, b2, b3⟩ := h'.2 i (Nat.lt_of_lt_of_le hi h.1)
  rw [a1] at b1 b2 b3
  exact ⟨b1, b2.trans a2, b3.trans a3⟩
theorem xb_ext.one {hp he m : Nat} {Q Bf Dp : Nat → Int32} {q dep cd : Nat → Nat} (I : xb_inv w sb nb oc hp he m Q Bf Dp q dep cd) {p d x : Nat} (hDp : Dp p = -1) : xb_ext m (m + 1) q dep cd (xb_up q m p) (xb_up dep p d) (xb_up cd p x) := by
  have hne : ∀ i, i < m → q i ≠ p := by
    intro i hi e
    have h1 := (I.1 i hi).2.2.1
    rw [e, hDp] at h1
    have h2 := (I.1 i hi).2.2.2.1
    rw [e] at h2
    exact xb_nIm1 (by omega) h1.symm
  exact ⟨by omega, fun i hi => ⟨xb_up_n (by omega), xb_up_n (hne i hi), xb_up_n (hne i hi)⟩⟩
end XBI
/-- what 'enter' does to queue, before, depths, and how many are queued: r places from p on -/
def xb_enter (fr dp : Int32) : Nat → Nat → (Nat → Int32) × (Nat → Int32) × (Nat → Int32) × Nat → (Nat → Int32) × (Nat → Int32) × (Nat → Int32) × Nat
  | 0, _, a => a
  | r + 1, p, a => xb_enter fr dp r (p + 1) (if a.2.2.1 p = -1 then (upd a.1 a.2.2.2 (nI p), upd a.2.1 p fr, upd a.2.2.1 p dp, a.2.2.2 + 1) else a)
section XBE
variable {w : Nat} {sb nb : Nat → Nat} {oc : Nat → Prop}
theorem xb_mulD {w y s : Nat} (hs : s < w) : (y * w + s) / w = y ∧ (y * w + s) % w = s := by
  have hw : 0 < w := by omega
  constructor
  · rw [Nat.add_comm, Nat.add_mul_div_right _ _ hw, Nat.div_eq_of_lt hs, Nat.zero_add]
  · rw [Nat.add_comm, Nat.add_mul_mod_self_right, Nat.mod_eq_of_lt hs]
theorem xb_enter_inv (hw : 8 * w < 2 ^ 31) {b d y hp he : Nat} {f : Int32} (hb : b < 8) (hd : d ≤ 4) (hy : (y + 1) * w ≤ 2 * w * w ^ d) (hat : ∀ s, s < w → xb_at w sb nb d (y * w + s) = w * b + s) (hok : ∀ s, s < w → xb_ok w sb nb oc d (y * w + s)) :
    ∀ (r s0 m : Nat) (Q Bf Dp : Nat → Int32) (q dep cd : Nat → Nat), r + s0 = w → xb_inv w sb nb oc hp he m Q Bf Dp q dep cd →
      (∀ d', d = d' + 1 → ∃ i, i < hp ∧ q i = xb_at w sb nb d' y ∧ dep (q i) = d' ∧ cd (q i) = y ∧ f = nI (q i)) → (∀ i, i < m → xb_lt (dep (q i), cd (q i)) (d, y * w + s0)) →
      ∃ (m' : Nat) (Q' Bf' Dp' : Nat → Int32) (q' dep' cd' : Nat → Nat), xb_enter f (nI d) r (w * b + s0) (Q, Bf, Dp, m) = (Q', Bf', Dp', m') ∧ xb_inv w sb nb oc hp he m' Q' Bf' Dp' q' dep' cd' ∧ xb_ext m m' q dep cd q' dep' cd' ∧
        (∀ s, s0 ≤ s → s < w → ∃ j, j < m' ∧ q' j = w * b + s ∧ xb_le (dep' (q' j), cd' (q' j)) (d, y * w + s)) ∧ (∀ i, i < m' → xb_lt (dep' (q' i), cd' (q' i)) (d, y * w + w)) := by
  intro r
  induction r with
  | zero =>
    intro s0 m Q Bf Dp q dep cd hr I hpar hkey
    have e0 : s0 = w := by omega
    subst e0
    exact ⟨m, Q, Bf, Dp, q, dep, cd, rfl, I, xb_ext.rf, fun s h1 h2 => by omega, hkey⟩
  | succ r ih =>
    intro s0 m Q Bf Dp q dep cd hr I hpar hkey
    have hs0 : s0 < w := by omega
    have hp8 : w * b + s0 < 8 * w := by
      have : w * b ≤ w * 7 := Nat.mul_le_mul_left _ (by omega)
      omega
    have hdm := xb_mulD (y := y) hs0
    by_cases hDp : Dp (w * b + s0) = -1
    · have hx : y * w + s0 < 2 * w * w ^ d := by
        rw [Nat.add_mul, Nat.one_mul] at hy
        omega
      have I' := xb_visit (f := f) hw I (p := w * b + s0) (d := d) (x := y * w + s0) hp8 hDp hd (hat s0 hs0).symm (hok s0 hs0) hx (fun d' hd' => by rw [hdm.1]; exact hpar d' hd') hkey
      have E' := xb_ext.one I (d := d) (x := y * w + s0) hDp
      obtain ⟨m', Q', Bf', Dp', q', dep', cd', g1, g2, g3, g4, g5⟩ := ih (s0 + 1) (m + 1) _ _ _ _ _ _ (by omega) I' (fun d' hd' => by
          obtain ⟨i, a1, a2, a3, a4, a5⟩ := hpar d' hd'
          have him : i < m := Nat.lt_of_lt_of_le a1 I.2.2.2.2.1
          obtain ⟨e1, e2, e3⟩ := E'.2 i him
          exact ⟨i, a1, by rw [e1]; exact a2, by rw [e1, e2]; exact a3, by rw [e1, e3]; exact a4, by rw [e1]; exact a5⟩)
        (fun i hi => by
          by_cases him : i = m
          · subst him
            rw [xb_up_s, xb_up_s, xb_up_s]
            exact Or.inr ⟨rfl, by omega⟩
          · obtain ⟨e1, e2, e3⟩ := E'.2 i (by omega)
            rw [e1, e2, e3]
            rcases hkey i (by omega) with h | ⟨h1, h2⟩
            · exact Or.inl h
            · exact Or.inr ⟨h1, by dsimp only at h2 ⊢; omega⟩)
      refine ⟨m', Q', Bf', Dp', q', dep', cd', ?_, g2, E'.tr g3, fun s h1 h2 => ?_, g5⟩
      · rw [xb_enter]
        dsimp only
        rw [if_pos hDp]
        exact g1
      · by_cases hs : s = s0
        · subst hs
          obtain ⟨e1, e2, e3⟩ := g3.2 m (by omega)
          rw [xb_up_s] at e1 e2 e3
          rw [xb_up_s] at e2 e3
          exact ⟨m, by have := g3.1; omega, e1, by rw [e1, e2, e3]; exact Or.inr ⟨rfl, Nat.le_refl _⟩⟩
        · exact g4 s (by omega) h2
    · obtain ⟨m', Q', Bf', Dp', q', dep', cd', g1, g2, g3, g4, g5⟩ := ih (s0 + 1) m Q Bf Dp q dep cd (by omega) I hpar (fun i hi => by
          rcases hkey i hi with h | ⟨h1, h2⟩
          · exact Or.inl h
          · exact Or.inr ⟨h1, by dsimp only at h2 ⊢; omega⟩)
      refine ⟨m', Q', Bf', Dp', q', dep', cd', ?_, g2, g3, fun s h1 h2 => ?_, g5⟩
      · rw [xb_enter]
        dsimp only
        rw [if_neg hDp]
        exact g1
      · by_cases hs : s = s0
        · subst hs
          rcases I.2.1 _ hp8 with h | ⟨i, h3, h4⟩
          · exact absurd h hDp
          · obtain ⟨e1, e2, e3⟩ := g3.2 i h3
            refine ⟨i, by have := g3.1; omega, by rw [e1]; exact h4, ?_⟩
            rw [e1, e2, e3]
            rcases hkey i h3 with h | ⟨h5, h6⟩
            · exact Or.inl h
            · exact Or.inr ⟨h5, by dsimp only at h6 ⊢; omega⟩
        · exact g4 s (by omega) h2
end XBE
section XBL
variable {w : Nat} {sb nb : Nat → Nat} {oc : Nat → Prop}
theorem xb_cnt_0 {f : Nat → Int32} : ∀ {n : Nat}, (∀ p, p < n → f p = -1) → xb_cnt f n = 0
  | 0, _ => rfl
  | n + 1, h => by
    rw [xb_cnt, xb_cnt_0 (fun p hp => h p (by omega)), if_pos (h n (by omega))]
theorem xb_inv_0 {Q Bf Dp : Nat → Int32} {q dep cd : Nat → Nat} (h : ∀ p, p < 8 * w → Dp p = -1) : xb_inv w sb nb oc 0 0 0 Q Bf Dp q dep cd :=
  ⟨fun i hi => by omega, fun p hp => Or.inl (h p hp), fun i j h1 h2 => by omega, fun i hi => by omega, Nat.le_refl _, Nat.le_refl _, xb_cnt_0 h⟩
/-- the start: both buckets of the key are entered -/
def xb_sta (w : Nat) (sb nb : Nat → Nat) (m : Nat) (q dep cd : Nat → Nat) : Prop := ∀ x, x < 2 * w → ∃ j, j < m ∧ q j = xb_at w sb nb 0 x ∧ xb_le (dep (q j), cd (q j)) (0, x)
theorem xb_sta.ext {m m' : Nat} {q dep cd q' dep' cd' : Nat → Nat} (h : xb_sta w sb nb m q dep cd) (e : xb_ext m m' q dep cd q' dep' cd') : xb_sta w sb nb m' q' dep' cd' := by
  intro x hx
  obtain ⟨j, h1, h2, h3⟩ := h x hx
  obtain ⟨e1, e2, e3⟩ := e.2 j h1
  exact ⟨j, by have := e.1; omega, by rw [e1]; exact h2, by rw [e1, e2, e3]; exact h3⟩
theorem xb_begin (hw : 8 * w < 2 ^ 31) (h0 : sb 0 < 8) (h1 : sb 1 < 8) {Q Bf Dp : Nat → Int32} {f : Int32} (hD : ∀ p, p < 8 * w → Dp p = -1) :
    ∃ (m : Nat) (Q' Bf' Dp' : Nat → Int32) (q dep cd : Nat → Nat), xb_enter f (nI 0) w (w * sb 1) (xb_enter f (nI 0) w (w * sb 0) (Q, Bf, Dp, 0)) = (Q', Bf', Dp', m) ∧ xb_inv w sb nb oc 0 0 m Q' Bf' Dp' q dep cd ∧ xb_sta w sb nb m q dep cd := by
  have hat : ∀ y s, s < w → xb_at w sb nb 0 (y * w + s) = w * sb y + s := fun y s hs => by rw [xb_at, (xb_mulD hs).1, (xb_mulD hs).2]
  obtain ⟨m1, Q1, B1, D1, q1, dp1, c1, a1, a2, a3, a4, a5⟩ := xb_enter_inv (sb := sb) (nb := nb) (oc := oc) (f := f) hw (b := sb 0) (d := 0) (y := 0) (hp := 0) (he := 0) h0 (by omega) (by rw [Nat.pow_zero]; omega) (hat 0) (fun _ _ => trivial) w 0 0 Q Bf Dp (fun _ => 0) (fun _ => 0) (fun _ => 0) (by omega) (xb_inv_0 hD) (fun d' hd' => by omega) (fun i hi => by omega)
  obtain ⟨m2, Q2, B2, D2, q2, dp2, c2, b1, b2, b3, b4, b5⟩ := xb_enter_inv (sb := sb) (nb := nb) (oc := oc) (f := f) hw (b := sb 1) (d := 0) (y := 1) (hp := 0) (he := 0) h1 (by omega) (by rw [Nat.pow_zero]; omega) (hat 1) (fun _ _ => trivial) w 0 m1 Q1 B1 D1 q1 dp1 c1 (by omega) a2 (fun d' hd' => by omega) (fun i hi => by
    have := a5 i hi
    rw [Nat.zero_mul, Nat.zero_add] at this
    rw [Nat.one_mul, Nat.add_zero]
    exact this)
  refine ⟨m2, Q2, B2, D2, q2, dp2, c2, ?_, b2, fun x hx => ?_⟩
  · rw [Nat.add_zero] at a1 b1
    rw [a1, b1]
  · by_cases hxw : x < w
    · obtain ⟨j, g1, g2, g3⟩ := a4 x (by omega) hxw
      obtain ⟨e1, e2, e3⟩ := b3.2 j g1
      refine ⟨j, by have := b3.1; omega, ?_, ?_⟩
      · rw [e1, g2]
        have := hat 0 x hxw
        rw [Nat.zero_mul, Nat.zero_add] at this
        exact this.symm
      · rw [e1, e2, e3]
        rw [Nat.zero_mul, Nat.zero_add] at g3
        exact g3
    · obtain ⟨j, g1, g2, g3⟩ := b4 (x - w) (by omega) (by omega)
      have hx1 : 1 * w + (x - w) = x := by omega
      refine ⟨j, g1, ?_, ?_⟩
      · rw [g2]
        have := hat 1 (x - w) (by omega)
        rw [hx1] at this
        exact this.symm
      · rw [hx1] at g3
        exact g3
/-- a place at the head that is occupied: not expanded (the path is long enough) -/
theorem xb_skip {h m : Nat} {Q Bf Dp : Nat → Int32} {q dep cd : Nat → Nat} (I : xb_inv w sb nb oc h h m Q Bf Dp q dep cd) (hm : h < m) (ho : oc (q h)) (hd : ¬ dep (q h) < 4) : xb_inv w sb nb oc (h + 1) (h + 1) m Q Bf Dp q dep cd := by
  have I' := I.more (hp' := h + 1) (by omega) (by omega)
  refine ⟨I'.1, I'.2.1, I'.2.2.1, fun i hi => ?_, by omega, by omega, I'.2.2.2.2.2.2⟩
  by_cases hih : i = h
  · subst hih
    exact ⟨ho, fun h4 => absurd h4 hd⟩
  · exact I.2.2.2.1 i (by omega)
theorem xb_front {h m : Nat} {Q Bf Dp : Nat → Int32} {q dep cd : Nat → Nat} (hw0 : 0 < w) (I : xb_inv w sb nb oc h h m Q Bf Dp q dep cd) (hm : h < m) : ∀ i, i < m → xb_lt (dep (q i), cd (q i)) (dep (q h) + 1, cd (q h) * w) := by
  intro i hi
  by_cases hih : i = h
  · subst hih
    exact Or.inl (by dsimp only; omega)
  · by_cases hlt : i < h
    · rcases I.2.2.1 i h hlt hm with h1 | ⟨h1, h2⟩
      · exact Or.inl (by dsimp only at h1 ⊢; omega)
      · exact Or.inl (by dsimp only at h1 ⊢; omega)
    · by_cases hle : dep (q i) ≤ dep (q h)
      · exact Or.inl (by dsimp only; omega)
      · obtain ⟨d', hd'⟩ : ∃ d', dep (q i) = d' + 1 := ⟨dep (q i) - 1, by omega⟩
        obtain ⟨i', a1, a2, a3, a4, a5⟩ := (I.1 i hi).2.2.2.2.2.2.2 d' hd'
        rcases I.2.2.1 i' h a1 hm with h1 | ⟨h1, h2⟩
        · dsimp only at h1; omega
        · dsimp only at h1 h2
          refine Or.inr ⟨by dsimp only; omega, ?_⟩
          dsimp only
          rw [a4] at h2
          exact (Nat.div_lt_iff_lt_mul hw0).mp h2
/-- a place at the head that is occupied and expanded -/
theorem xb_expand {h m : Nat} {Q Bf Dp : Nat → Int32} {q dep cd : Nat → Nat} (hw0 : 0 < w) (hw : 8 * w < 2 ^ 31) (I : xb_inv w sb nb oc h h m Q Bf Dp q dep cd) (hm : h < m) (ho : oc (q h)) (hd : dep (q h) < 4) (hb : nb (q h) < 8) :
    ∃ (m' : Nat) (Q' Bf' Dp' : Nat → Int32) (q' dep' cd' : Nat → Nat), xb_enter (nI (q h)) (nI (dep (q h) + 1)) w (w * nb (q h)) (Q, Bf, Dp, m) = (Q', Bf', Dp', m') ∧ xb_inv w sb nb oc (h + 1) (h + 1) m' Q' Bf' Dp' q' dep' cd' ∧ xb_ext m m' q dep cd q' dep' cd' := by
  obtain ⟨e1, e2, e3, e4, e5, e6, e7⟩ := (I.1 h hm).2
  have I' := I.more (hp' := h + 1) (by omega) (by omega)
  have hat : ∀ s, s < w → xb_at w sb nb (dep (q h) + 1) (cd (q h) * w + s) = w * nb (q h) + s := fun s hs => by rw [xb_at, (xb_mulD hs).1, (xb_mulD hs).2, ← e4]
  have hok : ∀ s, s < w → xb_ok w sb nb oc (dep (q h) + 1) (cd (q h) * w + s) := fun s hs => by rw [xb_ok, (xb_mulD hs).1, ← e4]; exact ⟨e5, ho⟩
  have hy : (cd (q h) + 1) * w ≤ 2 * w * w ^ (dep (q h) + 1) := by
    rw [Nat.pow_succ, ← Nat.mul_assoc]
    exact Nat.mul_le_mul_right _ (by omega)
  obtain ⟨m', Q', Bf', Dp', q', dep', cd', g1, g2, g3, g4, g5⟩ := xb_enter_inv (f := nI (q h)) hw hb (by omega) hy hat hok w 0 m Q Bf Dp q dep cd (by omega) I' (fun d' hd' => by
      have hd2 : d' = dep (q h) := by omega
      subst hd2
      exact ⟨h, by omega, e4, rfl, rfl, rfl⟩) (fun i hi => by rw [Nat.add_zero]; exact xb_front hw0 I hm i hi)
  refine ⟨m', Q', Bf', Dp', q', dep', cd', by rw [Nat.add_zero] at g1; exact g1, ⟨g2.1, g2.2.1, g2.2.2.1, fun i hi => ?_, g2.2.2.2.2.1, by have := g3.1; omega, g2.2.2.2.2.2.2⟩, g3⟩
  by_cases hih : i = h
  · subst hih
    obtain ⟨f1, f2, f3⟩ := g3.2 i hm
    rw [f1, f2, f3]
    exact ⟨ho, fun _ s hs => g4 s (by omega) hs⟩
  · exact g2.2.2.2.1 i (by omega)
/-- all paths that come before are met, and their last places are behind the head -/
theorem xb_all {h m : Nat} {Q Bf Dp : Nat → Int32} {q dep cd : Nat → Nat} (hw0 : 0 < w) (I : xb_inv w sb nb oc h h m Q Bf Dp q dep cd) (S : xb_sta w sb nb m q dep cd) (Z : Nat → Nat → Prop) (z1 : ∀ k x, Z (k + 1) x → Z k (x / w)) (z2 : ∀ k x, Z k x → k ≤ 4) (z3 : ∀ k x i, Z k x → i < m → xb_le (dep (q i), cd (q i)) (k, x) → i < h) :
    ∀ k x, Z k x → xb_ok w sb nb oc k x → x < 2 * w * w ^ k → ∃ i, i < h ∧ q i = xb_at w sb nb k x ∧ xb_le (dep (q i), cd (q i)) (k, x) := by
  intro k
  induction k with
  | zero =>
    intro x hz _ hx
    obtain ⟨j, h1, h2, h3⟩ := S x (by simpa using hx)
    exact ⟨j, z3 0 x j hz h1 h3, h2, h3⟩
  | succ k ih =>
    intro x hz hok hx
    have hx' : x / w < 2 * w * w ^ k := by
      rw [Nat.pow_succ, ← Nat.mul_assoc] at hx
      exact (Nat.div_lt_iff_lt_mul hw0).mpr hx
    obtain ⟨i, h1, h2, h3⟩ := ih (x / w) (z1 k x hz) hok.1 hx'
    have hk4 := z2 _ _ hz
    have hd4 : dep (q i) < 4 := by
      rcases h3 with h | ⟨h, -⟩ <;> dsimp only at h <;> omega
    obtain ⟨j, g1, g2, g3⟩ := (I.2.2.2.1 i h1).2 hd4 (x % w) (Nat.mod_lt _ hw0)
    have hle : xb_le (dep (q j), cd (q j)) (k + 1, x) := by
      have hxe : x / w * w + x % w = x := by rw [Nat.mul_comm]; exact Nat.div_add_mod x w
      rcases h3 with h | ⟨h, h'⟩
      · dsimp only at h
        rcases g3 with g | ⟨g, g'⟩ <;> dsimp only at g
        · exact Or.inl (by dsimp only; omega)
        · exact Or.inl (by dsimp only; omega)
      · dsimp only at h h'
        have hm : cd (q i) * w ≤ x / w * w := Nat.mul_le_mul_right _ h'
        rcases g3 with g | ⟨g, g'⟩ <;> dsimp only at g
        · exact Or.inl (by dsimp only; omega)
        · dsimp only at g'
          exact Or.inr ⟨by dsimp only; omega, by dsimp only; omega⟩
    refine ⟨j, z3 _ _ _ hz g1 hle, ?_, hle⟩
    rw [g2, xb_at, ← h2]
/-- the first free place that comes up ends the first path -/
theorem xb_first {h m : Nat} {Q Bf Dp : Nat → Int32} {q dep cd : Nat → Nat} (hw0 : 0 < w) (I : xb_inv w sb nb oc h h m Q Bf Dp q dep cd) (S : xb_sta w sb nb m q dep cd) (hm : h < m) :
    ∀ k x, xb_lt (k, x) (dep (q h), cd (q h)) → x < 2 * w * w ^ k → xb_ok w sb nb oc k x → oc (xb_at w sb nb k x) := by
  intro k x hlt hx hok
  have hd4 := (I.1 h hm).2.2.2.1
  obtain ⟨i, h1, h2, -⟩ := xb_all hw0 I S (fun k x => xb_lt (k, x) (dep (q h), cd (q h))) (fun k x hz => by
      rcases hz with h | ⟨h, -⟩ <;> dsimp only at h <;> exact Or.inl (by dsimp only; omega)) (fun k x hz => by
      rcases hz with h | ⟨h, -⟩ <;> dsimp only at h <;> omega) (fun k x i hz hi hle => by
      apply Classical.byContradiction
      intro hnot
      have hge : xb_le (dep (q h), cd (q h)) (dep (q i), cd (q i)) := by
        by_cases hih : i = h
        · subst hih
          exact Or.inr ⟨rfl, Nat.le_refl _⟩
        · rcases I.2.2.1 h i (by omega) hi with g | ⟨g, g'⟩
          · exact Or.inl g
          · exact Or.inr ⟨g, Nat.le_of_lt g'⟩
      rcases hz with z | ⟨z, z'⟩ <;> rcases hle with y | ⟨y, y'⟩ <;> rcases hge with x | ⟨x, x'⟩ <;> dsimp only at * <;> omega) k x hlt hok hx
  rw [← h2]
  exact (I.2.2.2.1 i h1).1
/-- nothing came up: there is no path -/
theorem xb_none {m : Nat} {Q Bf Dp : Nat → Int32} {q dep cd : Nat → Nat} (hw0 : 0 < w) (I : xb_inv w sb nb oc m m m Q Bf Dp q dep cd) (S : xb_sta w sb nb m q dep cd) :
    ∀ k x, k ≤ 4 → x < 2 * w * w ^ k → xb_ok w sb nb oc k x → oc (xb_at w sb nb k x) := by
  intro k x hk hx hok
  obtain ⟨i, h1, h2, -⟩ := xb_all hw0 I S (fun k _ => k ≤ 4) (fun k x hz => by omega) (fun k x hz => hz) (fun k x i _ hi _ => hi) k x hk hok hx
  rw [← h2]
  exact (I.2.2.2.1 i h1).1
/-! the path itself -/
/-- the j-th place of the path of d moves with code x -/
def xb_pt (w : Nat) (sb nb : Nat → Nat) (d x j : Nat) : Nat := xb_at w sb nb j (x / w ^ (d - j))
def xb_keep (Bf : Nat → Int32) : Nat → Int32 → (Nat → Int32) → (Nat → Int32)
  | 0, p, s => upd s 0 p
  | k + 1, p, s => xb_keep Bf k (Bf p.toNatClampNeg) (upd s (k + 1) p)
theorem xb_keep_is (hw : 8 * w < 2 ^ 31) {hp he m : Nat} {Q Bf Dp : Nat → Int32} {q dep cd : Nat → Nat} (I : xb_inv w sb nb oc hp he m Q Bf Dp q dep cd) :
    ∀ (k i : Nat) (s : Nat → Int32), i < m → dep (q i) = k → (∀ j, j ≤ k → xb_keep Bf k (nI (q i)) s j = nI (xb_pt w sb nb k (cd (q i)) j)) ∧ (∀ j, k < j → xb_keep Bf k (nI (q i)) s j = s j) ∧
      ∀ j, j ≤ k → ∃ i', i' < m ∧ q i' = xb_pt w sb nb k (cd (q i)) j ∧ dep (q i') = j ∧ (j < k → i' < hp) := by
  intro k
  induction k with
  | zero =>
    intro i s hi hd
    obtain ⟨e1, e2, e3, e4, e5, e6, e7⟩ := (I.1 i hi).2
    have hpt : xb_pt w sb nb 0 (cd (q i)) 0 = q i := by
      rw [hd] at e4
      rw [xb_pt, Nat.sub_self, Nat.pow_zero, Nat.div_one]
      exact e4.symm
    refine ⟨fun j hj => ?_, fun j hj => ?_, fun j hj => ?_⟩
    · have : j = 0 := by omega
      subst this
      rw [xb_keep, pk_us, hpt]
    · rw [xb_keep, pk_un (by omega)]
    · have : j = 0 := by omega
      subst this
      exact ⟨i, hi, hpt.symm, hd, fun h => by omega⟩
  | succ k ih =>
    intro i s hi hd
    obtain ⟨e1, e2, e3, e4, e5, e6, e7⟩ := (I.1 i hi).2
    obtain ⟨i', a1, a2, a3, a4, a5⟩ := e7 k hd
    have hi'm : i' < m := Nat.lt_of_lt_of_le a1 I.2.2.2.2.1
    have hcl : (nI (q i)).toNatClampNeg = q i := nI_clamp (by omega)
    obtain ⟨g1, g2, g3⟩ := ih i' (upd s (k + 1) (nI (q i))) hi'm a3
    have hpt : ∀ j, j ≤ k → xb_pt w sb nb (k + 1) (cd (q i)) j = xb_pt w sb nb k (cd (q i')) j := by
      intro j hj
      rw [xb_pt, xb_pt, a4, Nat.div_div_eq_div_mul, show k + 1 - j = (k - j) + 1 by omega, Nat.pow_succ, Nat.mul_comm]
    have hpt' : xb_pt w sb nb (k + 1) (cd (q i)) (k + 1) = q i := by
      rw [hd] at e4
      rw [xb_pt, Nat.sub_self, Nat.pow_zero, Nat.div_one]
      exact e4.symm
    have hk : xb_keep Bf (k + 1) (nI (q i)) s = xb_keep Bf k (nI (q i')) (upd s (k + 1) (nI (q i))) := by
      rw [xb_keep, hcl, a5]
    rw [hk]
    refine ⟨fun j hj => ?_, fun j hj => ?_, fun j hj => ?_⟩
    · by_cases hjk : j = k + 1
      · subst hjk
        rw [g2 _ (by omega), pk_us, hpt']
      · rw [g1 j (by omega), hpt j (by omega)]
    · rw [g2 j (by omega), pk_un (by omega)]
    · by_cases hjk : j = k + 1
      · subst hjk
        exact ⟨i, hi, hpt'.symm, hd, fun h => by omega⟩
      · obtain ⟨i2, b1, b2, b3, b4⟩ := g3 j (by omega)
        refine ⟨i2, b1, by rw [hpt j (by omega)]; exact b2, b3, fun h => ?_⟩
        by_cases hjk2 : j = k
        · subst hjk2
          have hqq : q i2 = q i' := by
            rw [b2, xb_pt, Nat.sub_self, Nat.pow_zero, Nat.div_one, a4]
            exact a2.symm
          have : i2 = i' := by
            apply Classical.byContradiction
            intro hne
            rcases Nat.lt_or_gt_of_ne hne with hl | hl
            · rcases I.2.2.1 i2 i' hl hi'm with z | ⟨z, z'⟩
              · rw [hqq] at z; exact absurd z (Nat.lt_irrefl _)
              · rw [hqq] at z'; exact absurd z' (Nat.lt_irrefl _)
            · rcases I.2.2.1 i' i2 hl b1 with z | ⟨z, z'⟩
              · rw [hqq] at z; exact absurd z (Nat.lt_irrefl _)
              · rw [hqq] at z'; exact absurd z' (Nat.lt_irrefl _)
          omega
        · exact b4 (by omega)
end XBL
end
section
/-! The reference's search, without the machine: all numbers in their order. -/
section XEN
variable (w : Nat) (sb nb : Nat → Nat) (hd : Nat → Int32)
/-- 'leads' from its q-th place on, r places left: whether it leads, and the path array -/
def xe_ld (d : Nat) : Nat → Nat → Nat → Nat → (Nat → Int32) → Bool × (Nat → Int32)
  | 0, _, _, _, pt => (true, pt)
  | r + 1, q, rest, size, pt =>
    if (hd (if q = 0 then w * sb (rest / size / w) + rest / size % w else w * nb (pt (q - 1)).toNatClampNeg + rest / size) = 0 ↔ q = d)
    then xe_ld d r (q + 1) (rest % size) (size / w) (upd pt q (nI (if q = 0 then w * sb (rest / size / w) + rest / size % w else w * nb (pt (q - 1)).toNatClampNeg + rest / size)))
    else (false, upd pt q (nI (if q = 0 then w * sb (rest / size / w) + rest / size % w else w * nb (pt (q - 1)).toNatClampNeg + rest / size)))
def xe_sn (d : Nat) : Nat → Nat → (Nat → Int32) → Bool × (Nat → Int32)
  | 0, _, pt => (false, pt)
  | r + 1, x, pt => if (xe_ld w sb nb hd d (d + 1) 0 x (w ^ d) pt).1 = true then (true, (xe_ld w sb nb hd d (d + 1) 0 x (w ^ d) pt).2) else xe_sn d r (x + 1) (xe_ld w sb nb hd d (d + 1) 0 x (w ^ d) pt).2
def xe_sd : Nat → Nat → (Nat → Int32) → Option Nat × (Nat → Int32)
  | 0, _, pt => (none, pt)
  | r + 1, d, pt => if (xe_sn w sb nb hd d (2 * w * w ^ d) 0 pt).1 = true then (some d, (xe_sn w sb nb hd d (2 * w * w ^ d) 0 pt).2) else xe_sd r (d + 1) (xe_sn w sb nb hd d (2 * w * w ^ d) 0 pt).2
/-- what leads -/
def xe_L (d x : Nat) : Prop := xb_ok w sb nb (fun p => ¬ hd p = 0) d x ∧ hd (xb_at w sb nb d x) = 0
variable {w sb nb hd}
theorem xe_okj {oc : Nat → Prop} : ∀ (d x : Nat), xb_ok w sb nb oc d x ↔ ∀ j, j < d → oc (xb_pt w sb nb d x j)
  | 0, x => by simp [xb_ok]
  | d + 1, x => by
    rw [xb_ok, xe_okj d (x / w)]
    have hpt : ∀ j, j ≤ d → xb_pt w sb nb (d + 1) x j = xb_pt w sb nb d (x / w) j := by
      intro j hj
      rw [xb_pt, xb_pt, Nat.div_div_eq_div_mul, show d + 1 - j = (d - j) + 1 by omega, Nat.pow_succ, Nat.mul_comm]
    have hd0 : xb_pt w sb nb (d + 1) x d = xb_at w sb nb d (x / w) := by
      rw [xb_pt, show d + 1 - d = 1 by omega, Nat.pow_one]
    constructor
    · rintro ⟨h1, h2⟩ j hj
      by_cases hjd : j = d
      · subst hjd
        rw [hd0]
        exact h2
      · rw [hpt j (by omega)]
        exact h1 j (by omega)
    · intro h
      refine ⟨fun j hj => ?_, ?_⟩
      · have := h j (by omega)
        rw [hpt j (by omega)] at this
        exact this
      · have := h d (by omega)
        rw [hd0] at this
        exact this
theorem xe_ld_is (hw0 : 0 < w) (hw : 8 * w < 2 ^ 31) (hs : ∀ y, y < 2 → sb y < 8) (hn : ∀ p, p < 8 * w → ¬ hd p = 0 → nb p < 8) {d x : Nat} (hx : x < 2 * w * w ^ d) :
    ∀ (r q rest size : Nat) (pt : Nat → Int32), r + q = d + 1 → (q = 0 → rest = x ∧ size = w ^ d) → (∀ e, q = e + 1 → e < d → rest = x % w ^ (d - e) ∧ size = w ^ (d - e) / w) →
      (∀ j, j < q → pt j = nI (xb_pt w sb nb d x j) ∧ xb_pt w sb nb d x j < 8 * w ∧ (hd (xb_pt w sb nb d x j) = 0 ↔ j = d)) →
      ((xe_ld w sb nb hd d r q rest size pt).1 = true ↔ ∀ j, q ≤ j → j ≤ d → (hd (xb_pt w sb nb d x j) = 0 ↔ j = d)) ∧ ((xe_ld w sb nb hd d r q rest size pt).1 = true → ∀ j, j ≤ d → (xe_ld w sb nb hd d r q rest size pt).2 j = nI (xb_pt w sb nb d x j) ∧ xb_pt w sb nb d x j < 8 * w) := by
  intro r
  induction r with
  | zero =>
    intro q rest size pt hr h0 h1 hp
    rw [xe_ld]
    exact ⟨⟨fun _ j hj1 hj2 => by omega, fun _ => rfl⟩, fun _ j hj => ⟨(hp j (by omega)).1, (hp j (by omega)).2.1⟩⟩
  | succ r ih =>
    intro q rest size pt hr h0 h1 hp
    have hq : q ≤ d := by omega
    -- the place that is computed is the path's q-th
    have key : (if q = 0 then w * sb (rest / size / w) + rest / size % w else w * nb (pt (q - 1)).toNatClampNeg + rest / size) = xb_pt w sb nb d x q ∧ xb_pt w sb nb d x q < 8 * w ∧ rest % size = x % w ^ (d - q) ∧ size / w = w ^ (d - q) / w := by
      by_cases hq0 : q = 0
      · subst hq0
        obtain ⟨e1, e2⟩ := h0 rfl
        subst e1 e2
        rw [if_pos rfl, xb_pt, xb_at, Nat.sub_zero]
        refine ⟨rfl, ?_, rfl, rfl⟩
        have hdg : rest / w ^ d / w < 2 := by
          rw [Nat.div_lt_iff_lt_mul hw0, Nat.div_lt_iff_lt_mul (Nat.pow_pos hw0)]
          exact hx
        have h8 := hs _ hdg
        have hm := Nat.mod_lt (rest / w ^ d) hw0
        have : w * sb (rest / w ^ d / w) ≤ w * 7 := Nat.mul_le_mul_left _ (by omega)
        omega
      · obtain ⟨e, rfl⟩ : ∃ e, q = e + 1 := ⟨q - 1, by omega⟩
        obtain ⟨e1, e2⟩ := h1 e rfl (by omega)
        obtain ⟨p1, p2, p3⟩ := hp e (by omega)
        have hcl : (pt e).toNatClampNeg = xb_pt w sb nb d x e := by rw [p1]; exact nI_clamp (by omega)
        have hpw : w ^ (d - e) = w ^ (d - (e + 1)) * w := by rw [← Nat.pow_succ]; congr 1; omega
        have hsz : size = w ^ (d - (e + 1)) := by rw [e2, hpw, Nat.mul_div_cancel _ hw0]
        have hdig : rest / size = x / w ^ (d - (e + 1)) % w := by
          rw [e1, hsz, hpw, Nat.mod_mul_right_div_self]
        have hne : ¬ hd (xb_pt w sb nb d x e) = 0 := fun h => by have := p3.mp h; omega
        have hnb := hn _ p2 hne
        have hpt : xb_pt w sb nb d x (e + 1) = w * nb (xb_pt w sb nb d x e) + x / w ^ (d - (e + 1)) % w := by
          rw [xb_pt, xb_at, xb_pt, Nat.div_div_eq_div_mul, ← hpw]
        rw [if_neg (by omega), show e + 1 - 1 = e from rfl, hcl, hdig, hpt]
        refine ⟨rfl, ?_, ?_, ?_⟩
        · have hm := Nat.mod_lt (x / w ^ (d - (e + 1))) hw0
          have : w * nb (xb_pt w sb nb d x e) ≤ w * 7 := Nat.mul_le_mul_left _ (by omega)
          omega
        · rw [e1, hsz, hpw, Nat.mod_mul_right_mod]
        · rw [hsz]
    obtain ⟨k1, k2, k3, k4⟩ := key
    rw [xe_ld, k1]
    by_cases hc : (hd (xb_pt w sb nb d x q) = 0 ↔ q = d)
    · rw [if_pos hc]
      obtain ⟨g1, g2⟩ := ih (q + 1) (rest % size) (size / w) (upd pt q (nI (xb_pt w sb nb d x q))) (by omega) (fun h => by omega) (fun e he hed => by
          have : e = q := by omega
          subst this
          exact ⟨k3, k4⟩) (fun j hj => by
          by_cases hjq : j = q
          · subst hjq
            exact ⟨pk_us, k2, hc⟩
          · rw [pk_un hjq]
            exact hp j (by omega))
      refine ⟨g1.trans ⟨fun h j hj1 hj2 => ?_, fun h j hj1 hj2 => h j (by omega) hj2⟩, g2⟩
      by_cases hjq : j = q
      · subst hjq
        exact hc
      · exact h j (by omega) hj2
    · rw [if_neg hc]
      refine ⟨⟨fun h => by simp at h, fun h => absurd (h q (Nat.le_refl _) hq) hc⟩, fun h => by simp at h⟩
theorem xe_leads (hw0 : 0 < w) (hw : 8 * w < 2 ^ 31) (hs : ∀ y, y < 2 → sb y < 8) (hn : ∀ p, p < 8 * w → ¬ hd p = 0 → nb p < 8) {d x : Nat} (hx : x < 2 * w * w ^ d) (pt : Nat → Int32) :
    ((xe_ld w sb nb hd d (d + 1) 0 x (w ^ d) pt).1 = true ↔ xe_L w sb nb hd d x) ∧ ((xe_ld w sb nb hd d (d + 1) 0 x (w ^ d) pt).1 = true → ∀ j, j ≤ d → (xe_ld w sb nb hd d (d + 1) 0 x (w ^ d) pt).2 j = nI (xb_pt w sb nb d x j) ∧ xb_pt w sb nb d x j < 8 * w) := by
  obtain ⟨g1, g2⟩ := xe_ld_is hw0 hw hs hn hx (d + 1) 0 x (w ^ d) pt (by omega) (fun _ => ⟨rfl, rfl⟩) (fun e he => by omega) (fun j hj => by omega)
  refine ⟨g1.trans ?_, g2⟩
  have hdd : xb_pt w sb nb d x d = xb_at w sb nb d x := by rw [xb_pt, Nat.sub_self, Nat.pow_zero, Nat.div_one]
  rw [xe_L, xe_okj]
  constructor
  · intro h
    refine ⟨fun j hj h0 => ?_, ?_⟩
    · have := (h j (by omega) (by omega)).mp h0
      omega
    · rw [← hdd]
      exact (h d (by omega) (by omega)).mpr rfl
  · rintro ⟨h1, h2⟩ j _ hj
    by_cases hjd : j = d
    · subst hjd
      rw [hdd]
      exact ⟨fun _ => rfl, fun _ => h2⟩
    · exact ⟨fun h => absurd h (h1 j (by omega)), fun h => absurd h hjd⟩
theorem xe_sn_is (hw0 : 0 < w) (hw : 8 * w < 2 ^ 31) (hs : ∀ y, y < 2 → sb y < 8) (hn : ∀ p, p < 8 * w → ¬ hd p = 0 → nb p < 8) {d : Nat} :
    ∀ (r x : Nat) (pt : Nat → Int32), r + x = 2 * w * w ^ d → (∀ x', x' < x → ¬ xe_L w sb nb hd d x') →
      ((xe_sn w sb nb hd d r x pt).1 = true → ∃ z, z < 2 * w * w ^ d ∧ xe_L w sb nb hd d z ∧ (∀ x', x' < z → ¬ xe_L w sb nb hd d x') ∧ ∀ j, j ≤ d → (xe_sn w sb nb hd d r x pt).2 j = nI (xb_pt w sb nb d z j) ∧ xb_pt w sb nb d z j < 8 * w) ∧
      (¬ (xe_sn w sb nb hd d r x pt).1 = true → ∀ x', x' < 2 * w * w ^ d → ¬ xe_L w sb nb hd d x') := by
  intro r
  induction r with
  | zero =>
    intro x pt hr hx
    rw [xe_sn]
    exact ⟨fun h => by simp at h, fun _ x' hx' => hx x' (by omega)⟩
  | succ r ih =>
    intro x pt hr hx
    have hxl : x < 2 * w * w ^ d := by omega
    obtain ⟨g1, g2⟩ := xe_leads hw0 hw hs hn hxl pt
    rw [xe_sn]
    by_cases hc : (xe_ld w sb nb hd d (d + 1) 0 x (w ^ d) pt).1 = true
    · rw [if_pos hc]
      exact ⟨fun _ => ⟨x, hxl, g1.mp hc, hx, g2 hc⟩, fun h => absurd rfl h⟩
    · rw [if_neg hc]
      exact ih (x + 1) _ (by omega) (fun x' hx' => by
        by_cases he : x' = x
        · subst he
          exact fun h => hc (g1.mpr h)
        · exact hx x' (by omega))
theorem xe_sd_is (hw0 : 0 < w) (hw : 8 * w < 2 ^ 31) (hs : ∀ y, y < 2 → sb y < 8) (hn : ∀ p, p < 8 * w → ¬ hd p = 0 → nb p < 8) :
    ∀ (r d : Nat) (pt : Nat → Int32), r + d = 5 → (∀ k x, k < d → x < 2 * w * w ^ k → ¬ xe_L w sb nb hd k x) →
      (∀ e, (xe_sd w sb nb hd r d pt).1 = some e → e ≤ 4 ∧ ∃ z, z < 2 * w * w ^ e ∧ xe_L w sb nb hd e z ∧ (∀ k x, xb_lt (k, x) (e, z) → x < 2 * w * w ^ k → ¬ xe_L w sb nb hd k x) ∧ ∀ j, j ≤ e → (xe_sd w sb nb hd r d pt).2 j = nI (xb_pt w sb nb e z j) ∧ xb_pt w sb nb e z j < 8 * w) ∧
      ((xe_sd w sb nb hd r d pt).1 = none → ∀ k x, k ≤ 4 → x < 2 * w * w ^ k → ¬ xe_L w sb nb hd k x) := by
  intro r
  induction r with
  | zero =>
    intro d pt hr hd'
    rw [xe_sd]
    exact ⟨fun e h => by simp at h, fun _ k x hk hx => hd' k x (by omega) hx⟩
  | succ r ih =>
    intro d pt hr hd'
    obtain ⟨g1, g2⟩ := xe_sn_is hw0 hw hs hn (d := d) (2 * w * w ^ d) 0 pt (by omega) (fun x' hx' => by omega)
    rw [xe_sd]
    by_cases hc : (xe_sn w sb nb hd d (2 * w * w ^ d) 0 pt).1 = true
    · rw [if_pos hc]
      refine ⟨fun e he => ?_, fun h => by simp at h⟩
      have : e = d := by simpa using he.symm
      subst this
      obtain ⟨z, z1, z2, z3, z4⟩ := g1 hc
      refine ⟨by omega, z, z1, z2, fun k x hlt hx => ?_, z4⟩
      rcases hlt with h | ⟨h, h'⟩
      · exact hd' k x h hx
      · dsimp only at h h'
        subst h
        exact z3 x h'
    · rw [if_neg hc]
      exact ih (d + 1) _ (by omega) (fun k x hk hx => by
        by_cases he : k = d
        · subst he
          exact g2 hc x hx
        · exact hd' k x (by omega) hx)
end XEN
end
section
/-! What the class's methods do, without the machine. A state: scalars by number, arrays by the number of their cell.
  scalars: 0 evictions, 1 moves, 2 retries, 3 waits, 4 nearMisses, 5 expiredRemoved; 6 usedCount, 7 time, 8 latestToken; 9 outcome, 10 hand, 11 kind, 12 key, 13 newValue, 14 life, 15 knownToken, 16 next, 17 changed, 18 moving; 19 length, 20 queued;
  reader r at 24 + 8 r: +0 state, +1 copiedValue, +2 copiedToken, +3 key, +4 retries, +5 keptVersion, +6 keptItem, +7 copiedExpiry.
  arrays: 5 places, 6 keys, 7 values, 8 tokens, 9 expiries, 10 bits, 11 usedFlags, 12 versions, 14 stops, 15 queue, 16 before, 17 depths. n: items, w: ways. -/
def xs_ush (x y : Int32) : Int32 := (x.toUInt32 >>> (y.toUInt32 &&& Int32.toUInt32 31)).toInt32
def xs_rem (x y : Int32) : Int32 := x - x / y * y
def xs_mix (k : Int32) : Int32 := (k ^^^ xs_ush k 15) * 1368264107
def xs_tag (k : Int32) : Int32 := xs_ush (xs_mix k) 28
def xs_str (k : Int32) : Int32 := xs_ush (xs_mix k) 23 &&& 3
def xs_b1 (k : Int32) : Int32 := xs_ush (xs_mix k) 25 &&& 7
def xs_ob (b k : Int32) : Int32 := b ^^^ (1 + xs_rem (xs_tag k) 7)
def xs_b2 (k : Int32) : Int32 := xs_ob (xs_b1 k) k
def xs_hash (k : Int32) : Int32 := xs_b1 k + 8 * xs_b2 k + 64 * xs_tag k + 1024 * xs_str k
def xs_isW (x a b : Int32) : Int32 := if x < a then 0 else if b < x then 0 else 1
/-- a whole array is replaced -/
def xs_sA (σ : xf_T) (j : Nat) (f : Nat → Int32) : xf_T := (σ.1, fun k => if k = j then f else σ.2 k)
def xs_full (n : Nat) (σ : xf_T) : Int32 := if σ.1 6 = nI n then 1 else 0
def xs_over (σ : xf_T) (e : Int32) : Int32 := if e = 0 then 0 else if σ.1 7 < e then 0 else 1
def xs_fi (pl ky : Nat → Int32) (key : Int32) : Nat → Nat → Int32
  | 0, _ => -1
  | r + 1, p => if pl p = -1 then xs_fi pl ky key r (p + 1) else if ky (pl p).toNatClampNeg = key then nI p else xs_fi pl ky key r (p + 1)
def xs_findIn (w : Nat) (σ : xf_T) (b key : Int32) : Int32 := xs_fi (σ.2 5) (σ.2 6) key w (w * b.toNatClampNeg)
def xs_find (w : Nat) (σ : xf_T) (key : Int32) : Int32 := if xs_findIn w σ (xs_b1 key) key = -1 then xs_findIn w σ (xs_b2 key) key else xs_findIn w σ (xs_b1 key) key
def xs_nr (pl ky : Nat → Int32) (key : Int32) : Nat → Nat → Int32 → Int32
  | 0, _, a => a
  | r + 1, p, a => xs_nr pl ky key r (p + 1) (if pl p = -1 then a else if xs_tag (ky (pl p).toNatClampNeg) = xs_tag key then a + 1 else a)
def xs_cn (w : Nat) (b f : Int32) : Nat := if f = -1 then w else f.toNatClampNeg - w * b.toNatClampNeg
def xs_lkIn (w : Nat) (σ : xf_T) (b key : Int32) : xf_T := xf_I σ 4 (xs_nr (σ.2 5) (σ.2 6) key (xs_cn w b (xs_findIn w σ b key)) (w * b.toNatClampNeg) (σ.1 4))
def xs_lk (w : Nat) (σ : xf_T) (key : Int32) : xf_T := if xs_findIn w σ (xs_b1 key) key = -1 then xs_lkIn w (xs_lkIn w σ (xs_b1 key) key) (xs_b2 key) key else xs_lkIn w σ (xs_b1 key) key
def xs_ver (σ : xf_T) (key : Int32) : Int32 := σ.2 12 (xs_str key).toNatClampNeg
def xs_grow (σ : xf_T) (key d : Int32) : xf_T := xf_A σ 12 (xs_str key).toNatClampNeg (σ.2 12 (xs_str key).toNatClampNeg + d)
def xs_rmf (N : Nat) (pl : Nat → Int32) (i : Int32) : Nat → Int32 := fun p => if p < N then (if pl p = i then -1 else pl p) else pl p
def xs_rm1 (w : Nat) (σ : xf_T) (i : Int32) : xf_T := xf_A (xs_sA σ 5 (xs_rmf (8 * w) (σ.2 5) i)) 11 i.toNatClampNeg 0
def xs_rm2 (w : Nat) (σ : xf_T) (i : Int32) : xf_T := xf_I (xs_rm1 w σ i) 6 ((xs_rm1 w σ i).1 6 - 1)
def xs_remove (w : Nat) (σ : xf_T) (i : Int32) : xf_T := xs_grow (xs_rm2 w σ i) ((xs_rm2 w σ i).2 6 i.toNatClampNeg) 2
def xs_renew (σ : xf_T) (i life : Int32) : xf_T := xf_A (xf_A (xf_I σ 8 (σ.1 8 + 1)) 8 i.toNatClampNeg (σ.1 8 + 1)) 9 i.toNatClampNeg (if life = 0 then 0 else σ.1 7 + life)
def xs_low (us : Nat → Int32) : Nat → Nat → Nat
  | 0, i => i
  | r + 1, i => if us i = 0 then i else xs_low us r (i + 1)
def xs_ins1 (σ : xf_T) (i : Nat) (key value : Int32) : xf_T := xf_A (xf_A (xf_I (xf_A σ 11 i 1) 6 (σ.1 6 + 1)) 6 i key) 7 i value
def xs_ins (n : Nat) (σ : xf_T) (place key value life : Int32) : xf_T := xf_A (xf_A (xs_renew (xs_ins1 σ (xs_low (σ.2 11) (n - 1) 0) key value) (nI (xs_low (σ.2 11) (n - 1) 0)) life) 10 (xs_low (σ.2 11) (n - 1) 0) 0) 5 place.toNatClampNeg (nI (xs_low (σ.2 11) (n - 1) 0))
/-! the search -/
def xs_nb (w : Nat) (σ : xf_T) (p : Nat) : Nat := (xs_ob (nI (p / w)) (σ.2 6 (σ.2 5 p).toNatClampNeg)).toNatClampNeg
def xs_pack (σ : xf_T) (a : (Nat → Int32) × (Nat → Int32) × (Nat → Int32) × Nat) : xf_T := xf_I (xs_sA (xs_sA (xs_sA σ 15 a.1) 16 a.2.1) 17 a.2.2.1) 20 (nI a.2.2.2)
/-- from the head h on, r heads left: the place that was found, if one was, and the queue as it then is -/
def xs_bfs (w : Nat) (σ : xf_T) : Nat → Nat → (Nat → Int32) × (Nat → Int32) × (Nat → Int32) × Nat → Option Nat × (Nat → Int32) × (Nat → Int32) × (Nat → Int32) × Nat
  | 0, _, a => (none, a)
  | r + 1, h, a => if h < a.2.2.2 then (if σ.2 5 (a.1 h).toNatClampNeg = -1 then (some (a.1 h).toNatClampNeg, a) else if 4 ≤ a.2.2.1 (a.1 h).toNatClampNeg then xs_bfs w σ r (h + 1) a else xs_bfs w σ r (h + 1) (xb_enter (a.1 h) (a.2.2.1 (a.1 h).toNatClampNeg + 1) w (w * xs_nb w σ (a.1 h).toNatClampNeg) a)) else (none, a)
/-- the first k elements are v -/
def xs_fill (N : Nat) (f : Nat → Int32) (v : Int32) (k : Nat) : Nat → Int32 := fun p => if p < k then v else f p
def xs_bfs0 (w : Nat) (σ : xf_T) (key : Int32) : Option Nat × (Nat → Int32) × (Nat → Int32) × (Nat → Int32) × Nat := xs_bfs w σ (8 * w) 0 (xb_enter (-1) 0 w (w * (xs_b2 key).toNatClampNeg) (xb_enter (-1) 0 w (w * (xs_b1 key).toNatClampNeg) (σ.2 15, σ.2 16, xs_fill (8 * w) (σ.2 17) (-1) (8 * w), 0)))
/-- 'keep' -/
def xs_kp (σ : xf_T) (last : Int32) : xf_T := xf_I (xs_sA σ 14 (xb_keep (σ.2 16) (σ.2 17 last.toNatClampNeg).toNatClampNeg last (σ.2 14))) 19 (σ.2 17 last.toNatClampNeg)
def xs_seekB (w : Nat) (σ : xf_T) (key : Int32) : Int32 := if (xs_bfs0 w σ key).1 = none then 0 else 1
def xs_res (σ : xf_T) (R : Option Nat × (Nat → Int32) × (Nat → Int32) × (Nat → Int32) × Nat) : xf_T := match R.1 with
  | none => xs_pack σ R.2
  | some p => xs_kp (xs_pack σ R.2) (nI p)
def xs_seek (w : Nat) (σ : xf_T) (key : Int32) : xf_T := xs_res σ (xs_bfs0 w σ key)
/-! the writer -/
def xs_begin (σ : xf_T) (kind key nv life kt : Int32) : xf_T := xf_I (xf_I (xf_I (xf_I (xf_I (xf_I (xf_I σ 11 kind) 12 key) 13 nv) 14 life) 15 kt) 9 0) 16 0
def xs_whenF (w : Nat) (σ : xf_T) (f : Int32) : xf_T := if σ.1 11 = 1 then xf_I σ 9 2 else if σ.1 11 = 4 then xf_I (xs_remove w σ f) 9 5 else if σ.1 11 = 3 then (if σ.2 8 f.toNatClampNeg = σ.1 15 then xf_I (xf_I σ 17 f) 16 1 else xf_I σ 9 3) else xf_I (xf_I σ 17 f) 16 1
def xs_whenN (n : Nat) (σ : xf_T) : xf_T := if σ.1 11 = 2 then xf_I σ 9 2 else if σ.1 11 = 3 then xf_I σ 9 4 else if σ.1 11 = 4 then xf_I σ 9 4 else xf_I σ 16 (if xs_full n σ = 0 then 4 else 3)
def xs_fnd (w : Nat) (σ : xf_T) (key : Int32) : Int32 := if xs_find w σ key = -1 then -1 else σ.2 5 (xs_find w σ key).toNatClampNeg
def xs_luk (n w : Nat) (σ : xf_T) : xf_T := if xs_fnd w σ (σ.1 12) = -1 then xs_whenN n (xs_lk w σ (σ.1 12)) else if xs_over σ (σ.2 9 (xs_fnd w σ (σ.1 12)).toNatClampNeg) = 0 then xs_whenF w (xs_lk w σ (σ.1 12)) (xs_fnd w σ (σ.1 12)) else xs_whenN n (xf_I (xs_remove w (xs_lk w σ (σ.1 12)) (xs_fnd w σ (σ.1 12))) 5 ((xs_remove w (xs_lk w σ (σ.1 12)) (xs_fnd w σ (σ.1 12))).1 5 + 1))
def xs_chV (σ : xf_T) : xf_T := xf_I (xf_A (xs_grow σ (σ.1 12) 1) 7 (σ.1 17).toNatClampNeg (σ.1 13)) 16 2
def xs_chT (σ : xf_T) : xf_T := xf_I (xs_grow (xs_renew σ (σ.1 17) (σ.1 14)) (σ.1 12) 1) 9 1
def xs_turn (n : Nat) (σ : xf_T) : xf_T := xf_I σ 10 (if nI n ≤ σ.1 10 + 1 then 0 else σ.1 10 + 1)
def xs_evl (n : Nat) : Nat → xf_T → xf_T
  | 0, σ => σ
  | r + 1, σ => if σ.2 10 (σ.1 10).toNatClampNeg = 0 then σ else xs_evl n r (xs_turn n (xf_A σ 10 (σ.1 10).toNatClampNeg 0))
def xs_ev1 (n w : Nat) (σ : xf_T) : xf_T := xs_turn n (xs_remove w (xs_evl n n σ) ((xs_evl n n σ).1 10))
def xs_evict (n w : Nat) (σ : xf_T) : xf_T := xf_I (xf_I (xs_ev1 n w σ) 0 ((xs_ev1 n w σ).1 0 + 1)) 16 4
def xs_chM (σ : xf_T) : xf_T := xf_I (xf_I σ 18 (σ.1 18 - 1)) 16 (if σ.1 18 - 1 < 0 then 7 else 5)
def xs_seekP (w : Nat) (σ : xf_T) : xf_T := if xs_seekB w σ (σ.1 12) = 0 then xf_I (xs_seek w σ (σ.1 12)) 9 6 else xs_chM (xf_I (xs_seek w σ (σ.1 12)) 18 ((xs_seek w σ (σ.1 12)).1 19))
def xs_mi (σ : xf_T) : Int32 := σ.2 5 (σ.2 14 (σ.1 18).toNatClampNeg).toNatClampNeg
def xs_mvOn (σ : xf_T) : xf_T := xf_I (xf_A (xs_grow σ (σ.2 6 (xs_mi σ).toNatClampNeg) 1) 5 (σ.2 14 (σ.1 18 + 1).toNatClampNeg).toNatClampNeg (xs_mi σ)) 16 6
def xs_mv1 (σ : xf_T) : xf_T := xs_grow (xf_A σ 5 (σ.2 14 (σ.1 18).toNatClampNeg).toNatClampNeg (-1)) (σ.2 6 (xs_mi σ).toNatClampNeg) 1
def xs_mvOff (σ : xf_T) : xf_T := xs_chM (xf_I (xs_mv1 σ) 1 ((xs_mv1 σ).1 1 + 1))
def xs_insK (n : Nat) (σ : xf_T) : xf_T := xf_I (xs_ins n σ (σ.2 14 0) (σ.1 12) (σ.1 13) (σ.1 14)) 9 1
def xs_goOn (n w : Nat) (σ : xf_T) : xf_T := if σ.1 16 = 0 then xs_luk n w σ else if σ.1 16 = 1 then xs_chV σ else if σ.1 16 = 2 then xs_chT σ else if σ.1 16 = 3 then xs_evict n w σ else if σ.1 16 = 4 then xs_seekP w σ else if σ.1 16 = 5 then xs_mvOn σ else if σ.1 16 = 6 then xs_mvOff σ else xs_insK n σ
/-! the readers: z is 24 + 8 r -/
def xs_kpV (z : Nat) (σ : xf_T) : xf_T := if xs_ver σ (σ.1 (z + 3)) &&& 1 = 0 then xf_I (xf_I σ (z + 5) (xs_ver σ (σ.1 (z + 3)))) z 2 else xf_I (xf_I σ (z + 5) (xs_ver σ (σ.1 (z + 3)))) 3 (σ.1 3 + 1)
def xs_into (w z : Nat) (σ : xf_T) (b s : Int32) : xf_T := if xs_findIn w σ b (σ.1 (z + 3)) = -1 then xf_I (xf_I (xs_lkIn w σ b (σ.1 (z + 3))) (z + 6) (-1)) z s else xf_I (xf_I (xs_lkIn w σ b (σ.1 (z + 3))) (z + 6) (σ.2 5 (xs_findIn w σ b (σ.1 (z + 3))).toNatClampNeg)) z 4
def xs_copy (z : Nat) (σ : xf_T) : xf_T := xf_I (xf_I (xf_I σ (z + 1) (σ.2 7 (σ.1 (z + 6)).toNatClampNeg)) (z + 2) (σ.2 8 (σ.1 (z + 6)).toNatClampNeg)) (z + 7) (σ.2 9 (σ.1 (z + 6)).toNatClampNeg)
def xs_endR (z : Nat) (σ : xf_T) (hit : Int32) : xf_T := if hit = 0 then xf_I σ z 8 else xf_I (xf_A σ 10 (σ.1 (z + 6)).toNatClampNeg 1) z 7
def xs_hit (z : Nat) (σ : xf_T) : Int32 := if σ.1 (z + 6) = -1 then 0 else if xs_over σ (σ.1 (z + 7)) = 0 then 1 else 0
def xs_chk (z : Nat) (σ : xf_T) : xf_T := if xs_ver σ (σ.1 (z + 3)) = σ.1 (z + 5) then xs_endR z σ (xs_hit z σ) else xf_I (xf_I (xf_I σ (z + 4) (σ.1 (z + 4) + 1)) 2 (σ.1 2 + 1)) z (if σ.1 (z + 4) + 1 < 3 then 1 else 6)
def xs_lck1 (w z : Nat) (σ : xf_T) : xf_T := xf_I (xs_lk w σ (σ.1 (z + 3))) (z + 6) (xs_fnd w σ (σ.1 (z + 3)))
def xs_lck (w z : Nat) (σ : xf_T) : xf_T := if σ.1 9 = 0 then xf_I σ 3 (σ.1 3 + 1) else if xs_fnd w σ (σ.1 (z + 3)) = -1 then xs_endR z (xs_lck1 w z σ) (xs_hit z (xs_lck1 w z σ)) else xs_endR z (xs_copy z (xs_lck1 w z σ)) (xs_hit z (xs_copy z (xs_lck1 w z σ)))
def xs_goR (w z : Nat) (σ : xf_T) : xf_T := if σ.1 z = 1 then xs_kpV z σ else if σ.1 z = 2 then xs_into w z σ (xs_b1 (σ.1 (z + 3))) 3 else if σ.1 z = 3 then xs_into w z σ (xs_b2 (σ.1 (z + 3))) 5 else if σ.1 z = 4 then xf_I (xs_copy z σ) z 5 else if σ.1 z = 5 then xs_chk z σ else xs_lck w z σ
/-! the face -/
def xs_work (n w : Nat) : Nat → xf_T → Int32 → xf_T × Int32
  | 0, σ, d => (σ, d)
  | r + 1, σ, d => if σ.1 9 = 0 then xs_work n w r (xs_goOn n w σ) (d + 1) else (σ, d)
end
section
/-! Facts of the numbers: hashes, small indices, what a set field or element reads. -/
theorem xs_of32 (x : Int32) : x = nI x.toBitVec.toNat ∧ x.toBitVec.toNat < 2 ^ 32 := by
  refine ⟨?_, x.toBitVec.isLt⟩
  apply Int32.toBitVec_inj.mp
  show x.toBitVec = BitVec.ofNat 32 x.toBitVec.toNat
  simp
theorem xs_nxor (a b : Nat) : nI a ^^^ nI b = nI (a ^^^ b) := by
  apply Int32.toBitVec_inj.1
  show BitVec.ofNat 32 a ^^^ BitVec.ofNat 32 b = BitVec.ofNat 32 (a ^^^ b)
  apply BitVec.eq_of_getLsbD_eq
  intro i hi
  simp [hi]
theorem xs_str_is (k : Int32) : ∃ j, j < 4 ∧ xs_str k = nI j := pk_andE _ 2 (by decide)
theorem xs_b1_is (k : Int32) : ∃ j, j < 8 ∧ xs_b1 k = nI j := pk_andE _ 3 (by decide)
theorem xs_tag_is (k : Int32) : ∃ j, j < 16 ∧ xs_tag k = nI j := by
  obtain ⟨h1, h2⟩ := xs_of32 (xs_mix k)
  refine ⟨(xs_mix k).toBitVec.toNat / 2 ^ 28, by omega, ?_⟩
  unfold xs_tag xs_ush
  generalize hn : (xs_mix k).toBitVec.toNat = n at h1 h2 ⊢
  rw [h1]
  exact pk_ushrN h2 28 28 (by decide)
theorem xs_ob_is {j : Nat} (hj : j < 8) (k : Int32) : ∃ i, i < 8 ∧ xs_ob (nI j) k = nI i := by
  obtain ⟨t, ht, e⟩ := xs_tag_is k
  have h7 : xs_rem (nI t) 7 = nI (t % 7) := pk_rem (a := t) (d := 7) (by omega) (by omega) (by omega)
  refine ⟨j ^^^ (1 + t % 7), ?_, ?_⟩
  · exact Nat.xor_lt_two_pow (n := 3) (by omega) (by omega)
  · unfold xs_ob
    rw [e, h7, show (1 : Int32) = nI 1 from rfl, nI_add, xs_nxor]
theorem xs_b2_is (k : Int32) : ∃ j, j < 8 ∧ xs_b2 k = nI j := by
  obtain ⟨j, hj, e⟩ := xs_b1_is k
  unfold xs_b2
  rw [e]
  exact xs_ob_is hj k
theorem xs_in {x : Int32} {j N : Nat} (e : x = nI j) (h : j < N) (hN : N < 2 ^ 31) : vp_in x N := by rw [e]; exact vp_in_nI h hN
theorem xs_str_in (k : Int32) : vp_in (xs_str k) 4 := by
  obtain ⟨j, hj, e⟩ := xs_str_is k
  exact xs_in e hj (by omega)
theorem xs_isW_z (x a b : Int32) : narrow .boolean (.int (xs_isW x a b)) = .int (xs_isW x a b) := by
  unfold xs_isW
  split
  · rfl
  · split <;> rfl
theorem xs_I1 {σ : xf_T} {k j : Nat} {v : Int32} : (xf_I σ k v).1 j = if j = k then v else σ.1 j := rfl
theorem xs_I2 {σ : xf_T} {k : Nat} {v : Int32} : (xf_I σ k v).2 = σ.2 := rfl
theorem xs_A1 {σ : xf_T} {j i : Nat} {v : Int32} : (xf_A σ j i v).1 = σ.1 := rfl
theorem xs_A2 {σ : xf_T} {j i k : Nat} {v : Int32} : (xf_A σ j i v).2 k = if k = j then upd (σ.2 j) i v else σ.2 k := rfl
theorem xs_sA1 {σ : xf_T} {j : Nat} {f : Nat → Int32} : (xs_sA σ j f).1 = σ.1 := rfl
theorem xs_sA2 {σ : xf_T} {j k : Nat} {f : Nat → Int32} : (xs_sA σ j f).2 k = if k = j then f else σ.2 k := rfl
theorem xs_ext {σ σ' : xf_T} (h1 : ∀ k, σ.1 k = σ'.1 k) (h2 : ∀ j i, σ.2 j i = σ'.2 j i) : σ = σ' := by
  obtain ⟨a, b⟩ := σ
  obtain ⟨a', b'⟩ := σ'
  have e1 : a = a' := funext h1
  have e2 : b = b' := funext (fun j => funext (h2 j))
  rw [e1, e2]
theorem xs_I_id (σ : xf_T) (k : Nat) : xf_I σ k (σ.1 k) = σ := by
  refine xs_ext (fun j => ?_) (fun j i => rfl)
  rw [xs_I1]
  split
  · next h => rw [h]
  · rfl
theorem xs_II (σ : xf_T) (k : Nat) (a b : Int32) : xf_I (xf_I σ k a) k b = xf_I σ k b := by
  refine xs_ext (fun j => ?_) (fun j i => rfl)
  rw [xs_I1, xs_I1, xs_I1]
  split <;> rfl
theorem xs_sA_id (σ : xf_T) (j : Nat) : xs_sA σ j (σ.2 j) = σ := by
  refine xs_ext (fun k => rfl) (fun k i => ?_)
  rw [xs_sA2]
  split
  · next h => rw [h]
  · rfl
theorem xs_sAA (σ : xf_T) (j : Nat) (f g : Nat → Int32) : xs_sA (xs_sA σ j f) j g = xs_sA σ j g := by
  refine xs_ext (fun k => rfl) (fun k i => ?_)
  rw [xs_sA2, xs_sA2, xs_sA2]
  split <;> rfl
theorem xs_A_sA (σ : xf_T) (j : Nat) (f : Nat → Int32) (i : Nat) (v : Int32) : xf_A (xs_sA σ j f) j i v = xs_sA σ j (upd f i v) := by
  refine xs_ext (fun k => rfl) (fun k q => ?_)
  rw [xs_A2, xs_sA2, xs_sA2, xs_sA2, if_pos rfl]
  split <;> rfl
end
section
/-! What the reference's methods do, without the machine.
  scalars: 0 time, 1 hand, 2 tokens, 3 next, 4 result, 5 kind, 6 key, 7 put, 8 life, 9 wanted, 10 target, 11 last, 12 from, 13 evictions, 14 moves, 15 allRetries, 16 waits, 17 near, 18 dead.
  arrays: 1 held, 2 taken, 3 keys, 4 values, 5 marks, 6 ends, 7 bits, 8 versions, 9 path, 10 states, 11 sought, 12 kept, 13 retries, 14 got, 15 copied, 16 copiedMark, 17 copiedEnd. -/
def xm_bk (k c : Int32) : Int32 := if c = 0 then xs_b1 k else xs_b2 k
def xm_si (hd ky : Nat → Int32) (key : Int32) : Nat → Nat → Int32
  | 0, _ => -1
  | r + 1, p => if hd p - 1 < 0 then xm_si hd ky key r (p + 1) else if ky (hd p - 1).toNatClampNeg = key then nI p else xm_si hd ky key r (p + 1)
def xm_sea (w : Nat) (τ : xf_T) (key c : Int32) : Int32 := xm_si (τ.2 1) (τ.2 3) key w (w * (xm_bk key c).toNatClampNeg)
def xm_nr (hd ky : Nat → Int32) (key : Int32) : Nat → Nat → Int32 → Int32
  | 0, _, a => a
  | r + 1, p, a => xm_nr hd ky key r (p + 1) (if hd p ≤ 0 then a else if xs_tag (ky (hd p - 1).toNatClampNeg) = xs_tag key then a + 1 else a)
def xm_cn (w : Nat) (b f : Int32) : Nat := if f < 0 then w else f.toNatClampNeg - w * b.toNatClampNeg
def xm_look (w : Nat) (τ : xf_T) (key c : Int32) : xf_T := xf_I τ 17 (xm_nr (τ.2 1) (τ.2 3) key (xm_cn w (xm_bk key c) (xm_sea w τ key c)) (w * (xm_bk key c).toNatClampNeg) (τ.1 17))
def xm_lb (w : Nat) (τ : xf_T) (key : Int32) : xf_T := if xm_sea w τ key 0 < 0 then xm_look w (xm_look w τ key 0) key 1 else xm_look w τ key 0
def xm_whe (w : Nat) (τ : xf_T) (key : Int32) : Int32 := if xm_sea w τ key 0 < 0 then xm_sea w τ key 1 else xm_sea w τ key 0
def xm_over (τ : xf_T) (e : Int32) : Int32 := if e = 0 then 0 else if τ.1 0 < e then 0 else 1
def xm_grow (τ : xf_T) (key d : Int32) : xf_T := xf_A τ 8 (xs_str key).toNatClampNeg (τ.2 8 (xs_str key).toNatClampNeg + d)
def xm_rmf (N : Nat) (hd : Nat → Int32) (i : Int32) : Nat → Int32 := fun p => if p < N then (if hd p = i + 1 then 0 else hd p) else hd p
def xm_rm1 (w : Nat) (τ : xf_T) (i : Int32) : xf_T := xf_A (xs_sA τ 1 (xm_rmf (8 * w) (τ.2 1) i)) 2 i.toNatClampNeg 0
def xm_rem (w : Nat) (τ : xf_T) (i : Int32) : xf_T := xm_grow (xm_rm1 w τ i) (τ.2 3 i.toNatClampNeg) 2
def xm_mny (tk : Nat → Int32) : Nat → Int32
  | 0 => 0
  | k + 1 => xm_mny tk k + (if tk k = 0 then 0 else 1)
def xm_fin (τ : xf_T) (v : Int32) : xf_T := xf_I (xf_I τ 3 0) 4 v
def xm_stamp (τ : xf_T) (i : Int32) : xf_T := xf_A (xf_A (xf_I τ 2 (τ.1 2 + 1)) 5 i.toNatClampNeg (τ.1 2 + 1)) 6 i.toNatClampNeg (if τ.1 8 = 0 then 0 else τ.1 0 + τ.1 8)
def xm_fnd (w : Nat) (τ : xf_T) (key : Int32) : Int32 := if xm_whe w τ key < 0 then -1 else τ.2 1 (xm_whe w τ key).toNatClampNeg - 1
/-- behind the look: which way -/
def xm_way (n w : Nat) (τ : xf_T) : xf_T :=
  if τ.1 10 < 0 then (if τ.1 5 = 0 ∨ τ.1 5 = 1 then (if xm_mny (τ.2 2) n = nI n then xf_I τ 3 4 else xf_I τ 3 5) else if τ.1 5 = 2 then xm_fin τ 2 else xm_fin τ 4)
  else if τ.1 5 = 0 ∨ τ.1 5 = 2 then xf_I τ 3 2 else if τ.1 5 = 1 then xm_fin τ 2 else if τ.1 5 = 3 then (if τ.2 5 (τ.1 10).toNatClampNeg = τ.1 9 then xf_I τ 3 2 else xm_fin τ 3) else xm_fin (xm_rem w τ (τ.1 10)) 5
def xm_bg1 (w : Nat) (τ : xf_T) : xf_T := xf_I (xm_lb w τ (τ.1 6)) 10 (xm_fnd w τ (τ.1 6))
def xm_bg2 (w : Nat) (τ : xf_T) : xf_T := if xm_fnd w τ (τ.1 6) < 0 then xm_bg1 w τ else if xm_over τ (τ.2 6 (xm_fnd w τ (τ.1 6)).toNatClampNeg) = 0 then xm_bg1 w τ else xf_I (xf_I (xm_rem w (xm_bg1 w τ) (xm_fnd w τ (τ.1 6))) 18 ((xm_rem w (xm_bg1 w τ) (xm_fnd w τ (τ.1 6))).1 18 + 1)) 10 (-1)
def xm_begin (n w : Nat) (τ : xf_T) : xf_T := xm_way n w (xm_bg2 w τ)
def xm_turn (n : Nat) (τ : xf_T) : xf_T := xf_I τ 1 (xs_rem (τ.1 1 + 1) (nI n))
def xm_evl (n : Nat) : Nat → xf_T → xf_T
  | 0, τ => τ
  | r + 1, τ => if τ.2 7 (τ.1 1).toNatClampNeg = 0 then τ else xm_evl n r (xm_turn n (xf_A τ 7 (τ.1 1).toNatClampNeg 0))
def xm_ev1 (n w : Nat) (τ : xf_T) : xf_T := xm_turn n (xm_rem w (xm_evl n (n + 1) τ) ((xm_evl n (n + 1) τ).1 1))
def xm_evict (n w : Nat) (τ : xf_T) : xf_T := xf_I (xf_I (xm_ev1 n w τ) 13 ((xm_ev1 n w τ).1 13 + 1)) 3 5
def xm_sb (key : Int32) (y : Nat) : Nat := if y = 0 then (xs_b1 key).toNatClampNeg else (xs_b2 key).toNatClampNeg
def xm_nb (w : Nat) (τ : xf_T) (p : Nat) : Nat := (xs_ob (nI (p / w)) (τ.2 3 (τ.2 1 p - 1).toNatClampNeg)).toNatClampNeg
def xm_sk (w : Nat) (τ : xf_T) : Option Nat × (Nat → Int32) := xe_sd w (xm_sb (τ.1 6)) (xm_nb w τ) (τ.2 1) 5 0 (τ.2 9)
def xm_seek (w : Nat) (τ : xf_T) : xf_T := match (xm_sk w τ).1 with
  | none => xm_fin (xs_sA τ 9 (xm_sk w τ).2) 6
  | some d => xf_I (xf_I (xf_I (xs_sA τ 9 (xm_sk w τ).2) 11 (nI d)) 12 (nI d - 1)) 3 (if nI d ≤ 0 then 8 else 6)
def xm_mi (τ : xf_T) : Int32 := τ.2 1 (τ.2 9 (τ.1 12).toNatClampNeg).toNatClampNeg - 1
def xm_mv0 (τ : xf_T) : xf_T := xm_grow τ (τ.2 3 (xm_mi τ).toNatClampNeg) 1
def xm_move (τ : xf_T) : xf_T := if τ.1 3 = 6 then xf_I (xf_A (xm_mv0 τ) 1 (τ.2 9 (τ.1 12 + 1).toNatClampNeg).toNatClampNeg (xm_mi τ + 1)) 3 7
  else xf_I (xf_I (xf_I (xf_A (xm_mv0 τ) 1 (τ.2 9 (τ.1 12).toNatClampNeg).toNatClampNeg 0) 14 (τ.1 14 + 1)) 12 (τ.1 12 - 1)) 3 (if τ.1 12 - 1 < 0 then 8 else 6)
def xm_en1 (τ : xf_T) (i : Nat) : xf_T := xf_A (xf_A (xf_A τ 2 i 1) 3 i (τ.1 6)) 4 i (τ.1 7)
def xm_enter (τ : xf_T) : xf_T := xm_fin (xf_A (xf_A (xm_stamp (xm_en1 τ (xs_low (τ.2 2) 31 0)) (nI (xs_low (τ.2 2) 31 0))) 7 (xs_low (τ.2 2) 31 0) 0) 1 (τ.2 9 0).toNatClampNeg (nI (xs_low (τ.2 2) 31 0) + 1)) 1
def xm_chV (τ : xf_T) : xf_T := xf_I (xf_A (xm_grow τ (τ.1 6) 1) 4 (τ.1 10).toNatClampNeg (τ.1 7)) 3 3
def xm_chT (τ : xf_T) : xf_T := xm_fin (xm_grow (xm_stamp τ (τ.1 10)) (τ.1 6) 1) 1
def xm_one (n w : Nat) (τ : xf_T) : xf_T := if τ.1 3 = 1 then xm_begin n w τ else if τ.1 3 = 2 then xm_chV τ else if τ.1 3 = 3 then xm_chT τ else if τ.1 3 = 4 then xm_evict n w τ else if τ.1 3 = 5 then xm_seek w τ else if τ.1 3 = 6 then xm_move τ else if τ.1 3 = 7 then xm_move τ else xm_enter τ
def xm_work (n w : Nat) : Nat → xf_T → Int32 → xf_T × Int32
  | 0, τ, d => (τ, d)
  | r + 1, τ, d => if τ.1 3 ≤ 0 then (τ, d) else xm_work n w r (xm_one n w τ) (d + 1)
/-! the readers -/
def xm_keep (τ : xf_T) (r : Nat) (now : Int32) : xf_T := if xs_rem now 2 = 0 then xf_A (xf_A τ 12 r now) 10 r 2 else xf_I τ 16 (τ.1 16 + 1)
def xm_find (w : Nat) (τ : xf_T) (r : Nat) (s : Int32) : xf_T := if xm_sea w τ (τ.2 11 r) (s - 2) < 0 then xf_A (xf_A (xm_look w τ (τ.2 11 r) (s - 2)) 14 r 0) 10 r (if s = 2 then 3 else 5) else xf_A (xf_A (xm_look w τ (τ.2 11 r) (s - 2)) 14 r (τ.2 1 (xm_sea w τ (τ.2 11 r) (s - 2)).toNatClampNeg)) 10 r 4
def xm_copy (τ : xf_T) (r : Nat) : xf_T := xf_A (xf_A (xf_A (xf_A τ 15 r (τ.2 4 (τ.2 14 r - 1).toNatClampNeg)) 16 r (τ.2 5 (τ.2 14 r - 1).toNatClampNeg)) 17 r (τ.2 6 (τ.2 14 r - 1).toNatClampNeg)) 10 r 5
def xm_hit (τ : xf_T) (r : Nat) : Int32 := if τ.2 14 r ≤ 0 then 0 else if xm_over τ (τ.2 17 r) = 0 then 1 else 0
def xm_chk (τ : xf_T) (r : Nat) : xf_T := if τ.2 8 (xs_str (τ.2 11 r)).toNatClampNeg = τ.2 12 r then (if xm_hit τ r = 0 then xf_A τ 10 r 8 else xf_A (xf_A τ 7 (τ.2 14 r - 1).toNatClampNeg 1) 10 r 7) else xf_A (xf_A (xf_I τ 15 (τ.1 15 + 1)) 13 r (τ.2 13 r + 1)) 10 r (if τ.2 13 r + 1 < 3 then 1 else 6)
def xm_lhit (w : Nat) (τ : xf_T) (r : Nat) : Int32 := if xm_fnd w τ (τ.2 11 r) < 0 then 0 else if xm_over τ (τ.2 6 (xm_fnd w τ (τ.2 11 r)).toNatClampNeg) = 0 then 1 else 0
def xm_lck1 (w : Nat) (τ : xf_T) (r : Nat) : xf_T := xf_A (xf_A (xf_A (xm_lb w τ (τ.2 11 r)) 15 r (τ.2 4 (xm_fnd w τ (τ.2 11 r)).toNatClampNeg)) 16 r (τ.2 5 (xm_fnd w τ (τ.2 11 r)).toNatClampNeg)) 7 (xm_fnd w τ (τ.2 11 r)).toNatClampNeg 1
def xm_lck (w : Nat) (τ : xf_T) (r : Nat) : xf_T := if τ.1 3 ≤ 0 then (if xm_lhit w τ r = 0 then xf_A (xm_lb w τ (τ.2 11 r)) 10 r 8 else xf_A (xm_lck1 w τ r) 10 r 7) else xf_I τ 16 (τ.1 16 + 1)
def xm_step (w : Nat) (τ : xf_T) (r : Nat) : xf_T := if τ.2 10 r = 1 then xm_keep τ r (τ.2 8 (xs_str (τ.2 11 r)).toNatClampNeg) else if τ.2 10 r = 2 then xm_find w τ r 2 else if τ.2 10 r = 3 then xm_find w τ r 3 else if τ.2 10 r = 4 then xm_copy τ r else if τ.2 10 r = 5 then xm_chk τ r else xm_lck w τ r
end
section
/-! The class's numbers and the reference's, side by side. -/
/-- scalars that are the same on both sides -/
def xr_sc : List (Nat × Nat) := [(7, 0), (10, 1), (8, 2), (11, 5), (12, 6), (13, 7), (14, 8), (15, 9), (0, 13), (1, 14), (2, 15), (3, 16), (4, 17), (5, 18)]
/-- arrays that are the same on both sides: of n, or of 4 -/
def xr_ar : List (Nat × Nat) := [(6, 3), (7, 4), (8, 5), (9, 6), (10, 7), (11, 2)]
def xr_core (n w : Nat) (σ τ : xf_T) : Prop :=
  (∀ q ∈ xr_sc, σ.1 q.1 = τ.1 q.2) ∧ (∀ q ∈ xr_ar, ∀ i, i < n → σ.2 q.1 i = τ.2 q.2 i) ∧ (∀ i, i < 4 → σ.2 12 i = τ.2 8 i) ∧
  (∀ p, p < 8 * w → τ.2 1 p = σ.2 5 p + 1) ∧ (∀ i, n ≤ i → i < 32 → τ.2 2 i = 0) ∧
  (∀ p, p < 8 * w → σ.2 5 p = -1 ∨ ∃ i, i < n ∧ σ.2 5 p = nI i ∧ σ.2 11 i = 1) ∧
  (∀ i, i < n → (σ.2 11 i = 0 ∨ σ.2 11 i = 1) ∧ (σ.2 10 i = 0 ∨ σ.2 10 i = 1)) ∧
  σ.1 6 = xm_mny (σ.2 11) n ∧ (∃ h, h < n ∧ σ.1 10 = nI h) ∧ (1 ≤ n ∧ n ≤ 32 ∧ 1 ≤ w ∧ w ≤ 4)
section XRC
variable {n w : Nat} {σ τ : xf_T}
theorem xr_core.sc (h : xr_core n w σ τ) (k k' : Nat) (hk : (k, k') ∈ xr_sc) : σ.1 k = τ.1 k' := h.1 (k, k') hk
theorem xr_core.ar (h : xr_core n w σ τ) (k k' : Nat) (hk : (k, k') ∈ xr_ar) {i : Nat} (hi : i < n) : σ.2 k i = τ.2 k' i := h.2.1 (k, k') hk i hi
/-- a scalar that is the class's alone -/
theorem xr_core.oI (h : xr_core n w σ τ) {k : Nat} {v : Int32} (hk : (xr_sc.all (fun q => q.1 != k) && (k != 6)) = true) : xr_core n w (xf_I σ k v) τ := by
  rw [Bool.and_eq_true] at hk
  obtain ⟨h1, h2, h3, h4, h5, h6, h7, h8, h9, h10⟩ := h
  have key : ∀ q ∈ xr_sc, (xf_I σ k v).1 q.1 = σ.1 q.1 := by
    intro q hq
    have := List.all_eq_true.mp hk.1 q hq
    rw [xs_I1, if_neg (by simpa using this)]
  refine ⟨fun q hq => by rw [key q hq]; exact h1 q hq, h2, h3, h4, h5, h6, h7, ?_, ?_, h10⟩
  · rw [xs_I1, if_neg (by have := hk.2; simp at this; omega)]; exact h8
  · obtain ⟨x, x1, x2⟩ := h9
    exact ⟨x, x1, by rw [key (10, 1) (by decide)]; exact x2⟩
/-- a scalar that is the reference's alone -/
theorem xr_core.oJ (h : xr_core n w σ τ) {k : Nat} {v : Int32} (hk : (xr_sc.all (fun q => q.2 != k)) = true) : xr_core n w σ (xf_I τ k v) := by
  obtain ⟨h1, h2, h3, h4, h5, h6, h7, h8, h9, h10⟩ := h
  refine ⟨fun q hq => ?_, h2, h3, h4, h5, h6, h7, h8, h9, h10⟩
  have := List.all_eq_true.mp hk q hq
  rw [xs_I1, if_neg (by simpa using this)]
  exact h1 q hq
/-- an array that is the class's alone -/
theorem xr_core.oA (h : xr_core n w σ τ) {j : Nat} {f : Nat → Int32} (hk : (xr_ar.all (fun q => q.1 != j) && (j != 12) && (j != 5)) = true) : xr_core n w (xs_sA σ j f) τ := by
  rw [Bool.and_eq_true, Bool.and_eq_true] at hk
  obtain ⟨h1, h2, h3, h4, h5, h6, h7, h8, h9, h10⟩ := h
  have key : ∀ q ∈ xr_ar, (xs_sA σ j f).2 q.1 = σ.2 q.1 := by
    intro q hq
    have := List.all_eq_true.mp hk.1.1 q hq
    rw [xs_sA2, if_neg (by simpa using this)]
  have k12 : (xs_sA σ j f).2 12 = σ.2 12 := by rw [xs_sA2, if_neg (by have := hk.1.2; simp at this; omega)]
  have k5 : (xs_sA σ j f).2 5 = σ.2 5 := by rw [xs_sA2, if_neg (by have := hk.2; simp at this; omega)]
  have k11 := key (11, 2) (by decide)
  have k10 := key (10, 7) (by decide)
  dsimp only at k11 k10
  refine ⟨h1, fun q hq i hi => by rw [key q hq]; exact h2 q hq i hi, fun i hi => by rw [k12]; exact h3 i hi, fun p hp => by rw [k5]; exact h4 p hp, h5, fun p hp => by rw [k5, k11]; exact h6 p hp, fun i hi => by rw [k11, k10]; exact h7 i hi, by rw [k11]; exact h8, h9, h10⟩
/-- an array that is the reference's alone -/
theorem xr_core.oB (h : xr_core n w σ τ) {j : Nat} {f : Nat → Int32} (hk : (xr_ar.all (fun q => q.2 != j) && (j != 8) && (j != 1)) = true) : xr_core n w σ (xs_sA τ j f) := by
  rw [Bool.and_eq_true, Bool.and_eq_true] at hk
  obtain ⟨h1, h2, h3, h4, h5, h6, h7, h8, h9, h10⟩ := h
  have key : ∀ q ∈ xr_ar, (xs_sA τ j f).2 q.2 = τ.2 q.2 := by
    intro q hq
    have := List.all_eq_true.mp hk.1.1 q hq
    rw [xs_sA2, if_neg (by simpa using this)]
  have k12 : (xs_sA τ j f).2 8 = τ.2 8 := by rw [xs_sA2, if_neg (by have := hk.1.2; simp at this; omega)]
  have k5 : (xs_sA τ j f).2 1 = τ.2 1 := by rw [xs_sA2, if_neg (by have := hk.2; simp at this; omega)]
  have k11 := key (11, 2) (by decide)
  dsimp only at k11
  refine ⟨h1, fun q hq i hi => by rw [key q hq]; exact h2 q hq i hi, fun i hi => by rw [k12]; exact h3 i hi, fun p hp => by rw [k5]; exact h4 p hp, fun i a b => by rw [k11]; exact h5 i a b, h6, h7, h8, h9, h10⟩
/-- a scalar of both -/
theorem xr_core.bI (h : xr_core n w σ τ) {k k' : Nat} {v v' : Int32} (hv : v = v') (hk : ((k, k') ∈ xr_sc) ∧ k ≠ 10) : xr_core n w (xf_I σ k v) (xf_I τ k' v') := by
  subst hv
  obtain ⟨h1, h2, h3, h4, h5, h6, h7, h8, h9, h10⟩ := h
  have inj : ∀ q ∈ xr_sc, ∀ q' ∈ xr_sc, (q.1 = q'.1 ↔ q.2 = q'.2) := by decide +kernel
  have n6 : ∀ q ∈ xr_sc, q.1 ≠ 6 := by decide +kernel
  refine ⟨fun q hq => ?_, h2, h3, h4, h5, h6, h7, ?_, ?_, h10⟩
  · rw [xs_I1, xs_I1]
    by_cases hc : q.1 = k
    · rw [if_pos hc, if_pos ((inj q hq (k, k') hk.1).mp hc)]
    · rw [if_neg hc, if_neg (fun e => hc ((inj q hq (k, k') hk.1).mpr e))]
      exact h1 q hq
  · rw [xs_I1, if_neg (fun e => n6 (k, k') hk.1 e.symm)]; exact h8
  · rw [xs_I1, if_neg (fun e => hk.2 e.symm)]; exact h9
/-- the hand -/
theorem xr_core.hand (h : xr_core n w σ τ) {a : Nat} (ha : a < n) : xr_core n w (xf_I σ 10 (nI a)) (xf_I τ 1 (nI a)) := by
  obtain ⟨h1, h2, h3, h4, h5, h6, h7, h8, h9, h10⟩ := h
  have inj : ∀ q ∈ xr_sc, (q.1 = 10 ↔ q.2 = 1) := by decide +kernel
  refine ⟨fun q hq => ?_, h2, h3, h4, h5, h6, h7, h8, ⟨a, ha, by rw [xs_I1, if_pos rfl]⟩, h10⟩
  rw [xs_I1, xs_I1]
  by_cases hc : q.1 = 10
  · rw [if_pos hc, if_pos ((inj q hq).mp hc)]
  · rw [if_neg hc, if_neg (fun e => hc ((inj q hq).mpr e))]
    exact h1 q hq
/-- an element of an array of both (not of the flags) -/
theorem xr_core.bA (h : xr_core n w σ τ) {j j' i : Nat} {v v' : Int32} (hv : v = v') (hk : ((j, j') ∈ xr_ar) ∧ j ≠ 10 ∧ j ≠ 11) : xr_core n w (xf_A σ j i v) (xf_A τ j' i v') := by
  subst hv
  obtain ⟨h1, h2, h3, h4, h5, h6, h7, h8, h9, h10⟩ := h
  have inj : ∀ q ∈ xr_ar, ∀ q' ∈ xr_ar, (q.1 = q'.1 ↔ q.2 = q'.2) := by decide +kernel
  have nn : ∀ q ∈ xr_ar, q.1 ≠ 5 ∧ q.1 ≠ 12 ∧ q.2 ≠ 1 ∧ q.2 ≠ 8 := by decide +kernel
  have m := nn (j, j') hk.1
  dsimp only at m
  have j2 : j' ≠ 2 := fun e => hk.2.2 ((inj (j, j') hk.1 (11, 2) (by decide)).mpr e)
  refine ⟨h1, fun q hq x hx => ?_, fun x hx => ?_, fun p hp => ?_, fun x a b => ?_, fun p hp => ?_, fun x hx => ?_, ?_, h9, h10⟩
  · rw [xs_A2, xs_A2]
    by_cases hc : q.1 = j
    · rw [if_pos hc, if_pos ((inj q hq (j, j') hk.1).mp hc)]
      by_cases hx2 : x = i
      · subst hx2
        rw [pk_us, pk_us]
      · rw [pk_un hx2, pk_un hx2]
        exact h2 (j, j') hk.1 x hx
    · rw [if_neg hc, if_neg (fun e => hc ((inj q hq (j, j') hk.1).mpr e))]
      exact h2 q hq x hx
  · rw [xs_A2, xs_A2, if_neg (Ne.symm m.2.1), if_neg (Ne.symm m.2.2.2)]; exact h3 x hx
  · rw [xs_A2, xs_A2, if_neg (Ne.symm m.1), if_neg (Ne.symm m.2.2.1)]; exact h4 p hp
  · rw [xs_A2, if_neg (Ne.symm j2)]; exact h5 x a b
  · rw [xs_A2, xs_A2, if_neg (Ne.symm m.1), if_neg (Ne.symm hk.2.2)]; exact h6 p hp
  · rw [xs_A2, xs_A2, if_neg (Ne.symm hk.2.2), if_neg (Ne.symm hk.2.1)]; exact h7 x hx
  · rw [xs_A2, if_neg (Ne.symm hk.2.2)]; exact h8
/-- a bit of both -/
theorem xr_core.bit (h : xr_core n w σ τ) {i : Nat} {v : Int32} (hv : v = 0 ∨ v = 1) : xr_core n w (xf_A σ 10 i v) (xf_A τ 7 i v) := by
  obtain ⟨h1, h2, h3, h4, h5, h6, h7, h8, h9, h10⟩ := h
  have inj : ∀ q ∈ xr_ar, (q.1 = 10 ↔ q.2 = 7) := by decide +kernel
  refine ⟨h1, fun q hq x hx => ?_, h3, h4, h5, h6, fun x hx => ⟨(h7 x hx).1, ?_⟩, h8, h9, h10⟩
  · rw [xs_A2, xs_A2]
    by_cases hc : q.1 = 10
    · rw [if_pos hc, if_pos ((inj q hq).mp hc)]
      by_cases hx2 : x = i
      · subst hx2
        rw [pk_us, pk_us]
      · rw [pk_un hx2, pk_un hx2]
        exact h2 (10, 7) (by decide) x hx
    · rw [if_neg hc, if_neg (fun e => hc ((inj q hq).mpr e))]
      exact h2 q hq x hx
  · rw [xs_A2, if_pos rfl]
    by_cases hx2 : x = i
    · subst hx2
      rw [pk_us]; exact hv
    · rw [pk_un hx2]; exact (h7 x hx).2
theorem xr_core.grow (h : xr_core n w σ τ) (k d : Int32) : xr_core n w (xs_grow σ k d) (xm_grow τ k d) := by
  obtain ⟨j, hj, e⟩ := xs_str_is k
  have ecl : (xs_str k).toNatClampNeg = j := by rw [e]; exact nI_clamp (by omega)
  obtain ⟨h1, h2, h3, h4, h5, h6, h7, h8, h9, h10⟩ := h
  have nn : ∀ q ∈ xr_ar, q.1 ≠ 12 ∧ q.2 ≠ 8 := by decide +kernel
  unfold xs_grow xm_grow
  rw [ecl]
  refine ⟨h1, fun q hq x hx => ?_, fun x hx => ?_, h4, h5, h6, h7, h8, h9, h10⟩
  · rw [xs_A2, xs_A2, if_neg (nn q hq).1, if_neg (nn q hq).2]; exact h2 q hq x hx
  · rw [xs_A2, xs_A2, if_pos rfl, if_pos rfl]
    by_cases hx2 : x = j
    · subst hx2
      rw [pk_us, pk_us, h3 x hx]
    · rw [pk_un hx2, pk_un hx2]; exact h3 x hx
end XRC
end
section
/-! Counting the used items; remove, stamp, insert, side by side. -/
def xr_cn (f : Nat → Int32) : Nat → Nat
  | 0 => 0
  | n + 1 => xr_cn f n + (if f n = 0 then 0 else 1)
theorem xr_mny (f : Nat → Int32) : ∀ n, xm_mny f n = nI (xr_cn f n)
  | 0 => rfl
  | n + 1 => by
    rw [xm_mny, xr_cn, xr_mny f n]
    split
    · rw [show (0 : Int32) = nI 0 from rfl, nI_add]
    · rw [show (1 : Int32) = nI 1 from rfl, nI_add]
theorem xr_cn_le (f : Nat → Int32) : ∀ n, xr_cn f n ≤ n
  | 0 => Nat.le_refl _
  | n + 1 => by
    have := xr_cn_le f n
    rw [xr_cn]
    split <;> omega
theorem xr_cn_all {f : Nat → Int32} : ∀ {n : Nat}, (∀ i, i < n → ¬ f i = 0) → xr_cn f n = n
  | 0, _ => rfl
  | n + 1, h => by
    rw [xr_cn, xr_cn_all (fun i hi => h i (by omega)), if_neg (h n (by omega))]
theorem xr_cn_lt {f : Nat → Int32} : ∀ {n i : Nat}, i < n → f i = 0 → xr_cn f n < n
  | n + 1, i, hi, hf => by
    have h1 := xr_cn_le f n
    rw [xr_cn]
    by_cases hin : i = n
    · subst hin
      rw [if_pos hf]
      omega
    · have h2 := xr_cn_lt (f := f) (n := n) (i := i) (by omega) hf
      split <;> omega
theorem xr_cn_ex {f : Nat → Int32} {n : Nat} (h : xr_cn f n ≠ n) : ∃ i, i < n ∧ f i = 0 := by
  apply Classical.byContradiction
  intro hn
  exact h (xr_cn_all (fun i hi e => hn ⟨i, hi, e⟩))
theorem xr_cn_out {f : Nat → Int32} {p : Nat} {v : Int32} : ∀ {n : Nat}, n ≤ p → xr_cn (upd f p v) n = xr_cn f n
  | 0, _ => rfl
  | n + 1, h => by
    rw [xr_cn, xr_cn, xr_cn_out (n := n) (by omega), pk_un (by omega)]
theorem xr_cn_add {f : Nat → Int32} {p : Nat} {v : Int32} (hv : ¬ v = 0) : ∀ {n : Nat}, p < n → f p = 0 → xr_cn (upd f p v) n = xr_cn f n + 1
  | n + 1, hp, hf => by
    rw [xr_cn, xr_cn]
    by_cases hpn : p = n
    · subst hpn
      rw [xr_cn_out (Nat.le_refl _), pk_us, if_neg hv, if_pos hf]
    · rw [xr_cn_add hv (n := n) (by omega) hf, pk_un (Ne.symm hpn)]
      omega
theorem xr_cn_sub {f : Nat → Int32} {p : Nat} : ∀ {n : Nat}, p < n → ¬ f p = 0 → xr_cn (upd f p 0) n + 1 = xr_cn f n
  | n + 1, hp, hf => by
    rw [xr_cn, xr_cn]
    by_cases hpn : p = n
    · subst hpn
      rw [xr_cn_out (Nat.le_refl _), pk_us, if_pos rfl, if_neg hf]
    · have := xr_cn_sub (n := n) (p := p) (f := f) (by omega) hf
      rw [pk_un (Ne.symm hpn)]
      omega
theorem xr_cn_cg {f g : Nat → Int32} : ∀ {n : Nat}, (∀ i, i < n → f i = g i) → xr_cn f n = xr_cn g n
  | 0, _ => rfl
  | n + 1, h => by
    rw [xr_cn, xr_cn, xr_cn_cg (fun i hi => h i (by omega)), h n (by omega)]
section XR2
variable {n w : Nat} {σ τ : xf_T}
theorem xr_core.b31 (h : xr_core n w σ τ) : n < 2 ^ 31 ∧ 8 * w < 2 ^ 31 := by
  have := h.2.2.2.2.2.2.2.2.2
  omega
theorem xr_add1 {x y : Int32} : x + 1 = y + 1 ↔ x = y := by
  constructor
  · intro h
    have := congrArg (fun z => z - 1) h
    simpa using this
  · intro h; rw [h]
/-- full or not, on both sides -/
theorem xr_core.full (h : xr_core n w σ τ) : (σ.1 6 = nI n ↔ xr_cn (σ.2 11) n = n) ∧ (xm_mny (τ.2 2) n = nI n ↔ xr_cn (σ.2 11) n = n) := by
  have hb := h.b31
  have e : xr_cn (τ.2 2) n = xr_cn (σ.2 11) n := xr_cn_cg (fun i hi => (h.ar 11 2 (by decide) hi).symm)
  have hle := xr_cn_le (σ.2 11) n
  constructor
  · rw [h.2.2.2.2.2.2.2.1, xr_mny, nI_eq (by omega) (by omega)]
  · rw [xr_mny, e, nI_eq (by omega) (by omega)]
theorem xr_core.remove (h : xr_core n w σ τ) {i : Nat} (hi : i < n) (hu : σ.2 11 i = 1) : xr_core n w (xs_remove w σ (nI i)) (xm_rem w τ (nI i)) := by
  have hb := h.b31
  have ecl : (nI i).toNatClampNeg = i := nI_clamp (by omega)
  have hk : σ.2 6 i = τ.2 3 i := h.ar 6 3 (by decide) hi
  have core : xr_core n w (xs_rm2 w σ (nI i)) (xm_rm1 w τ (nI i)) := by
    obtain ⟨h1, h2, h3, h4, h5, h6, h7, h8, h9, h10⟩ := h
    unfold xs_rm2 xs_rm1 xm_rm1
    rw [ecl]
    have sc6 : ∀ q ∈ xr_sc, q.1 ≠ 6 := by decide +kernel
    have nn : ∀ q ∈ xr_ar, q.1 ≠ 5 ∧ q.2 ≠ 1 ∧ (q.1 = 11 ↔ q.2 = 2) := by decide +kernel
    refine ⟨fun q hq => ?_, fun q hq x hx => ?_, h3, fun p hp => ?_, fun x a b => ?_, fun p hp => ?_, fun x hx => ⟨?_, (h7 x hx).2⟩, ?_, ?_, h10⟩
    · rw [xs_I1, if_neg (sc6 q hq)]; exact h1 q hq
    · obtain ⟨n1, n2, n3⟩ := nn q hq
      rw [xs_I2, xs_A2, xs_A2, xs_sA2, xs_sA2, xs_sA2, xs_sA2, if_neg n1, if_neg n2]
      by_cases hc : q.1 = 11
      · rw [if_pos hc, if_pos (n3.mp hc), if_neg (by decide), if_neg (by decide)]
        by_cases hx2 : x = i
        · subst hx2
          rw [pk_us, pk_us]
        · rw [pk_un hx2, pk_un hx2]
          exact h2 (11, 2) (by decide) x hx
      · rw [if_neg hc, if_neg (fun e => hc (n3.mpr e))]
        exact h2 q hq x hx
    · show xm_rmf (8 * w) (τ.2 1) (nI i) p = xs_rmf (8 * w) (σ.2 5) (nI i) p + 1
      rw [xs_rmf, xm_rmf, if_pos hp, if_pos hp, h4 p hp]
      by_cases hc : σ.2 5 p = nI i
      · rw [if_pos hc, if_pos (by rw [hc])]; rfl
      · rw [if_neg hc, if_neg (fun e => hc (xr_add1.mp e))]
    · rw [xs_A2, if_pos rfl, pk_un (by omega), xs_sA2, if_neg (by decide)]
      exact h5 x a b
    · show xs_rmf (8 * w) (σ.2 5) (nI i) p = -1 ∨ ∃ x, x < n ∧ xs_rmf (8 * w) (σ.2 5) (nI i) p = nI x ∧ upd (σ.2 11) i 0 x = 1
      rw [xs_rmf, if_pos hp]
      by_cases hc : σ.2 5 p = nI i
      · rw [if_pos hc]; exact Or.inl rfl
      · rw [if_neg hc]
        rcases h6 p hp with g | ⟨x, x1, x2, x3⟩
        · exact Or.inl g
        · refine Or.inr ⟨x, x1, x2, ?_⟩
          have hxi : x ≠ i := fun e => hc (by rw [x2, e])
          rw [pk_un hxi]; exact x3
    · rw [xs_I2, xs_A2, if_pos rfl, xs_sA2, if_neg (by decide)]
      by_cases hx2 : x = i
      · subst hx2
        rw [pk_us]; exact Or.inl rfl
      · rw [pk_un hx2]; exact (h7 x hx).1
    · rw [xs_I1, if_pos rfl, xs_I2, xs_A2, if_pos rfl, xs_sA2, if_neg (by decide), xr_mny]
      show σ.1 6 - 1 = _
      rw [h8, xr_mny, ← xr_cn_sub hi (by rw [hu]; decide), nI_succ]
      simp
    · exact h9
  have := core.grow (σ.2 6 i) 2
  unfold xs_remove xm_rem
  rw [ecl, ← hk]
  exact this
theorem xr_core.renew (h : xr_core n w σ τ) {i : Nat} (hi : i < n) : xr_core n w (xs_renew σ (nI i) (σ.1 14)) (xm_stamp τ (nI i)) := by
  have e8 : σ.1 8 = τ.1 2 := h.sc 8 2 (by decide)
  have e7 : σ.1 7 = τ.1 0 := h.sc 7 0 (by decide)
  have e14 : σ.1 14 = τ.1 8 := h.sc 14 8 (by decide)
  unfold xs_renew xm_stamp
  refine xr_core.bA (xr_core.bA (xr_core.bI h (by rw [e8]) (by decide)) (by rw [e8]) (by decide)) ?_ (by decide)
  rw [e14, e7]
end XR2
end
section
/-! Finding, near misses, the lowest free item, inserting, evicting, side by side. -/
theorem xs_fi_is (pl ky : Nat → Int32) (key : Int32) : ∀ (r p : Nat), xs_fi pl ky key r p = -1 ∨ ∃ q, p ≤ q ∧ q < p + r ∧ xs_fi pl ky key r p = nI q ∧ ¬ pl q = -1 ∧ ky (pl q).toNatClampNeg = key
  | 0, p => Or.inl rfl
  | r + 1, p => by
    rw [xs_fi]
    by_cases h1 : pl p = -1
    · rw [if_pos h1]
      rcases xs_fi_is pl ky key r (p + 1) with h | ⟨q, a, b, c⟩
      · exact Or.inl h
      · exact Or.inr ⟨q, by omega, by omega, c⟩
    · rw [if_neg h1]
      by_cases h2 : ky (pl p).toNatClampNeg = key
      · rw [if_pos h2]
        exact Or.inr ⟨p, by omega, by omega, rfl, h1, h2⟩
      · rw [if_neg h2]
        rcases xs_fi_is pl ky key r (p + 1) with h | ⟨q, a, b, c⟩
        · exact Or.inl h
        · exact Or.inr ⟨q, by omega, by omega, c⟩
theorem xs_low_le (f : Nat → Int32) : ∀ (r i : Nat), i ≤ xs_low f r i ∧ xs_low f r i ≤ i + r
  | 0, i => ⟨Nat.le_refl _, Nat.le_refl _⟩
  | r + 1, i => by
    rw [xs_low]
    split
    · exact ⟨Nat.le_refl _, by omega⟩
    · have := xs_low_le f r (i + 1)
      omega
theorem xs_low_is (f : Nat → Int32) : ∀ (r i k : Nat), i ≤ k → k ≤ i + r → f k = 0 → f (xs_low f r i) = 0 ∧ xs_low f r i ≤ k ∧ ∀ j, i ≤ j → j < xs_low f r i → ¬ f j = 0
  | 0, i, k, h1, h2, h3 => by
    have : k = i := by omega
    subst this
    exact ⟨h3, Nat.le_refl _, fun j a b => by rw [xs_low] at b; omega⟩
  | r + 1, i, k, h1, h2, h3 => by
    rw [xs_low]
    by_cases h0 : f i = 0
    · rw [if_pos h0]
      exact ⟨h0, h1, fun j a b => by omega⟩
    · rw [if_neg h0]
      have hk : i ≠ k := fun e => h0 (by rw [e]; exact h3)
      obtain ⟨a, b, c⟩ := xs_low_is f r (i + 1) k (by omega) (by omega) h3
      refine ⟨a, b, fun j hj1 hj2 => ?_⟩
      by_cases hji : j = i
      · rw [hji]; exact h0
      · exact c j (by omega) hj2
section XR3
variable {n w : Nat} {σ τ : xf_T}
theorem xr_m1p : (-1 : Int32) + 1 = 0 := by decide
theorem xr_subadd (x : Int32) : x + 1 - 1 = x := by simp
theorem xr_core.pl0 (h : xr_core n w σ τ) {p : Nat} (hp : p < 8 * w) : (τ.2 1 p - 1 = σ.2 5 p) ∧ (τ.2 1 p - 1 < 0 ↔ σ.2 5 p = -1) ∧ (τ.2 1 p ≤ 0 ↔ σ.2 5 p = -1) ∧ (τ.2 1 p = 0 ↔ σ.2 5 p = -1) := by
  have hb := h.b31
  have e := h.2.2.2.1 p hp
  have e2 : τ.2 1 p - 1 = σ.2 5 p := by rw [e]; exact xr_subadd _
  rw [e2]
  refine ⟨rfl, ?_, ?_, ?_⟩
  · rcases h.2.2.2.2.2.1 p hp with g | ⟨i, g1, g2, -⟩
    · rw [g]; exact ⟨fun _ => rfl, fun _ => by decide⟩
    · rw [g2]; exact ⟨fun q => absurd q (nI_pos (by omega)), fun q => absurd q (xb_nIm1 (by omega))⟩
  · rw [e]
    rcases h.2.2.2.2.2.1 p hp with g | ⟨i, g1, g2, -⟩
    · rw [g]; exact ⟨fun _ => rfl, fun _ => by decide⟩
    · rw [g2, nI_1]; exact ⟨fun q => absurd q (nI_nle (by omega) (by omega)), fun q => absurd q (xb_nIm1 (by omega))⟩
  · rw [e]
    rcases h.2.2.2.2.2.1 p hp with g | ⟨i, g1, g2, -⟩
    · rw [g]; exact ⟨fun _ => rfl, fun _ => by decide⟩
    · rw [g2, nI_1]; exact ⟨fun q => absurd q (nI_ne0 (by omega) (by omega)), fun q => absurd q (xb_nIm1 (by omega))⟩
theorem xr_core.key0 (h : xr_core n w σ τ) {p : Nat} (hp : p < 8 * w) (ho : ¬ σ.2 5 p = -1) : σ.2 6 (σ.2 5 p).toNatClampNeg = τ.2 3 (τ.2 1 p - 1).toNatClampNeg := by
  have hb := h.b31
  rcases h.2.2.2.2.2.1 p hp with g | ⟨i, g1, g2, -⟩
  · exact absurd g ho
  · rw [(h.pl0 hp).1, g2, nI_clamp (by omega)]
    exact h.ar 6 3 (by decide) g1
theorem xr_core.fi (h : xr_core n w σ τ) (key : Int32) : ∀ (r p : Nat), p + r ≤ 8 * w → xs_fi (σ.2 5) (σ.2 6) key r p = xm_si (τ.2 1) (τ.2 3) key r p
  | 0, p, _ => rfl
  | r + 1, p, hp => by
    have ih := xr_core.fi h key r (p + 1) (by omega)
    have hp8 : p < 8 * w := by omega
    have e := h.pl0 hp8
    rw [xs_fi, xm_si, ih]
    by_cases ho : σ.2 5 p = -1
    · rw [if_pos ho, if_pos (e.2.1.mpr ho)]
    · rw [if_neg ho, if_neg (fun q => ho (e.2.1.mp q)), h.key0 hp8 ho]
theorem xr_core.nr (h : xr_core n w σ τ) (key : Int32) : ∀ (r p : Nat) (a : Int32), p + r ≤ 8 * w → xs_nr (σ.2 5) (σ.2 6) key r p a = xm_nr (τ.2 1) (τ.2 3) key r p a
  | 0, p, a, _ => rfl
  | r + 1, p, a, hp => by
    have hp8 : p < 8 * w := by omega
    have e := h.pl0 hp8
    have ih := fun a => xr_core.nr h key r (p + 1) a (by omega)
    rw [xs_nr, xm_nr, ih]
    by_cases ho : σ.2 5 p = -1
    · rw [if_pos ho, if_pos (e.2.2.1.mpr ho)]
    · rw [if_neg ho, if_neg (fun q => ho (e.2.2.1.mp q)), h.key0 hp8 ho]
theorem xr_bkb {w j : Nat} (hj : j < 8) : w * j + w ≤ 8 * w := by
  have : w * j ≤ w * 7 := Nat.mul_le_mul_left _ (by omega)
  omega
/-- found in a bucket: the class's answer is the reference's -/
theorem xr_core.findIn (h : xr_core n w σ τ) {b : Int32} {j : Nat} (hj : j < 8) (hb : b = nI j) (key : Int32) : xs_findIn w σ b key = xm_si (τ.2 1) (τ.2 3) key w (w * b.toNatClampNeg) := by
  unfold xs_findIn
  rw [hb, nI_clamp (by omega)]
  exact h.fi key w (w * j) (xr_bkb hj)
theorem xr_core.sea0 (h : xr_core n w σ τ) (key : Int32) : xm_sea w τ key 0 = xs_findIn w σ (xs_b1 key) key := by
  obtain ⟨j, hj, e⟩ := xs_b1_is key
  unfold xm_sea xm_bk
  rw [if_pos rfl]
  exact (h.findIn hj e key).symm
theorem xr_core.sea1 (h : xr_core n w σ τ) (key : Int32) : xm_sea w τ key 1 = xs_findIn w σ (xs_b2 key) key := by
  obtain ⟨j, hj, e⟩ := xs_b2_is key
  unfold xm_sea xm_bk
  rw [if_neg (by decide)]
  exact (h.findIn hj e key).symm
/-- what a look in a bucket says -/
theorem xr_core.in3 (h : xr_core n w σ τ) {b : Int32} {j : Nat} (hj : j < 8) (hb : b = nI j) (key : Int32) : (xs_findIn w σ b key = -1 ∨ ∃ q i, w * j ≤ q ∧ q < w * j + w ∧ q < 8 * w ∧ xs_findIn w σ b key = nI q ∧ i < n ∧ σ.2 5 q = nI i ∧ σ.2 11 i = 1) ∧ (xs_findIn w σ b key < 0 ↔ xs_findIn w σ b key = -1) := by
  have h31 := h.b31
  have h8 := xr_bkb (w := w) hj
  have := xs_fi_is (σ.2 5) (σ.2 6) key w (w * j)
  have e : xs_findIn w σ b key = xs_fi (σ.2 5) (σ.2 6) key w (w * j) := by unfold xs_findIn; rw [hb, nI_clamp (by omega)]
  rw [e]
  rcases this with g | ⟨q, g1, g2, g3, g4, -⟩
  · exact ⟨Or.inl g, by rw [g]; exact ⟨fun _ => rfl, fun _ => by decide⟩⟩
  · rcases h.2.2.2.2.2.1 q (by omega) with k | ⟨i, k1, k2, k3⟩
    · exact absurd k g4
    · exact ⟨Or.inr ⟨q, i, g1, g2, by omega, g3, k1, k2, k3⟩, by rw [g3]; exact ⟨fun z => absurd z (nI_pos (by omega)), fun z => absurd z (xb_nIm1 (by omega))⟩⟩
theorem xr_core.lkIn (h : xr_core n w σ τ) {b : Int32} {j : Nat} (hj : j < 8) (hb : b = nI j) {key c : Int32} (hc : xm_bk key c = b) : xr_core n w (xs_lkIn w σ b key) (xm_look w τ key c) := by
  have h31 := h.b31
  have h8 := xr_bkb (w := w) hj
  have e1 : xm_sea w τ key c = xs_findIn w σ b key := by unfold xm_sea; rw [hc]; exact (h.findIn hj hb key).symm
  have e2 : xm_cn w b (xs_findIn w σ b key) = xs_cn w b (xs_findIn w σ b key) := by
    unfold xm_cn xs_cn
    by_cases hf : xs_findIn w σ b key = -1
    · rw [if_pos hf, if_pos (((h.in3 hj hb key).2).mpr hf)]
    · rw [if_neg hf, if_neg (fun q => hf (((h.in3 hj hb key).2).mp q))]
  have e3 : w * b.toNatClampNeg + xs_cn w b (xs_findIn w σ b key) ≤ 8 * w := by
    rw [hb, nI_clamp (by omega)]
    unfold xs_cn
    rw [nI_clamp (by omega), ← hb]
    rcases (h.in3 hj hb key).1 with g | ⟨q, i, g1, g2, g3, g4, -⟩
    · rw [if_pos g]; omega
    · rw [g4, if_neg (xb_nIm1 (by omega)), nI_clamp (by omega)]; omega
  unfold xs_lkIn xm_look
  refine h.bI ?_ (by decide)
  rw [hc, e1, e2, h.sc 4 17 (by decide)]
  exact h.nr key _ _ _ e3
theorem xr_core.whe (h : xr_core n w σ τ) (key : Int32) : xm_whe w τ key = xs_find w σ key ∧ (xs_find w σ key < 0 ↔ xs_find w σ key = -1) ∧ (xs_find w σ key = -1 ∨ ∃ q i, q < 8 * w ∧ xs_find w σ key = nI q ∧ i < n ∧ σ.2 5 q = nI i ∧ σ.2 11 i = 1) := by
  obtain ⟨j1, hj1, e1⟩ := xs_b1_is key
  obtain ⟨j2, hj2, e2⟩ := xs_b2_is key
  have a1 := h.in3 hj1 e1 key
  have a2 := h.in3 hj2 e2 key
  unfold xm_whe xs_find
  rw [h.sea0, h.sea1]
  by_cases hc : xs_findIn w σ (xs_b1 key) key = -1
  · rw [if_pos hc, if_pos (a1.2.mpr hc)]
    refine ⟨rfl, a2.2, ?_⟩
    rcases a2.1 with g | ⟨q, i, -, -, g⟩
    · exact Or.inl g
    · exact Or.inr ⟨q, i, g⟩
  · rw [if_neg hc, if_neg (fun z => hc (a1.2.mp z))]
    refine ⟨rfl, a1.2, ?_⟩
    rcases a1.1 with g | ⟨q, i, -, -, g⟩
    · exact Or.inl g
    · exact Or.inr ⟨q, i, g⟩
theorem xr_core.fnd (h : xr_core n w σ τ) (key : Int32) : xm_fnd w τ key = xs_fnd w σ key ∧ (xs_fnd w σ key < 0 ↔ xs_fnd w σ key = -1) ∧ (xs_fnd w σ key = -1 ∨ ∃ i, i < n ∧ xs_fnd w σ key = nI i ∧ σ.2 11 i = 1) := by
  obtain ⟨e, a1, a2⟩ := h.whe key
  have h31 := h.b31
  unfold xm_fnd xs_fnd
  rw [e]
  by_cases hc : xs_find w σ key = -1
  · rw [if_pos hc, if_pos (a1.mpr hc)]
    exact ⟨rfl, ⟨fun _ => rfl, fun _ => by decide⟩, Or.inl rfl⟩
  · rw [if_neg hc, if_neg (fun z => hc (a1.mp z))]
    rcases a2 with g | ⟨q, i, g1, g2, g3, g4, g5⟩
    · exact absurd g hc
    · rw [g2, nI_clamp (by omega), (h.pl0 g1).1, g4]
      exact ⟨rfl, ⟨fun z => absurd z (nI_pos (by omega)), fun z => absurd z (xb_nIm1 (by omega))⟩, Or.inr ⟨i, g3, rfl, g5⟩⟩
theorem xr_core.lk (h : xr_core n w σ τ) (key : Int32) : xr_core n w (xs_lk w σ key) (xm_lb w τ key) := by
  obtain ⟨j1, hj1, e1⟩ := xs_b1_is key
  obtain ⟨j2, hj2, e2⟩ := xs_b2_is key
  have a1 := h.in3 hj1 e1 key
  have c1 := h.lkIn (c := 0) hj1 e1 (key := key) (by unfold xm_bk; rw [if_pos rfl])
  have c2 := c1.lkIn (c := 1) hj2 e2 (key := key) (by unfold xm_bk; rw [if_neg (by decide)])
  unfold xs_lk xm_lb
  rw [h.sea0]
  by_cases hc : xs_findIn w σ (xs_b1 key) key = -1
  · rw [if_pos hc, if_pos (a1.2.mpr hc)]
    exact c2
  · rw [if_neg hc, if_neg (fun z => hc (a1.2.mp z))]
    exact c1
/-- a place of both is set -/
theorem xr_core.place (h : xr_core n w σ τ) {s : Nat} {v v' : Int32} (hv : v = -1 ∨ ∃ i, i < n ∧ v = nI i ∧ σ.2 11 i = 1) (hv' : v' = v + 1) : xr_core n w (xf_A σ 5 s v) (xf_A τ 1 s v') := by
  subst hv'
  obtain ⟨h1, h2, h3, h4, h5, h6, h7, h8, h9, h10⟩ := h
  have nn : ∀ q ∈ xr_ar, q.1 ≠ 5 ∧ q.2 ≠ 1 := by decide +kernel
  refine ⟨h1, fun q hq x hx => ?_, h3, fun p hp => ?_, h5, fun p hp => ?_, h7, h8, h9, h10⟩
  · rw [xs_A2, xs_A2, if_neg (nn q hq).1, if_neg (nn q hq).2]; exact h2 q hq x hx
  · rw [xs_A2, xs_A2, if_pos rfl, if_pos rfl]
    by_cases hx2 : p = s
    · subst hx2
      rw [pk_us, pk_us]
    · rw [pk_un hx2, pk_un hx2]; exact h4 p hp
  · rw [xs_A2, if_pos rfl]
    by_cases hx2 : p = s
    · subst hx2
      rw [pk_us]; exact hv
    · rw [pk_un hx2]; exact h6 p hp
/-- a free item becomes used on both sides -/
theorem xr_core.use (h : xr_core n w σ τ) {i : Nat} (hi : i < n) (hu : σ.2 11 i = 0) : xr_core n w (xf_I (xf_A σ 11 i 1) 6 (σ.1 6 + 1)) (xf_A τ 2 i 1) := by
  obtain ⟨h1, h2, h3, h4, h5, h6, h7, h8, h9, h10⟩ := h
  have inj : ∀ q ∈ xr_ar, (q.1 = 11 ↔ q.2 = 2) := by decide +kernel
  have sc6 : ∀ q ∈ xr_sc, q.1 ≠ 6 := by decide +kernel
  refine ⟨fun q hq => ?_, fun q hq x hx => ?_, h3, h4, fun x a b => ?_, fun p hp => ?_, fun x hx => ⟨?_, (h7 x hx).2⟩, ?_, h9, h10⟩
  · rw [xs_I1, if_neg (sc6 q hq)]; exact h1 q hq
  · rw [xs_I2, xs_A2, xs_A2]
    by_cases hc : q.1 = 11
    · rw [if_pos hc, if_pos ((inj q hq).mp hc)]
      by_cases hx2 : x = i
      · subst hx2
        rw [pk_us, pk_us]
      · rw [pk_un hx2, pk_un hx2]
        exact h2 (11, 2) (by decide) x hx
    · rw [if_neg hc, if_neg (fun e => hc ((inj q hq).mpr e))]
      exact h2 q hq x hx
  · rw [xs_A2, if_pos rfl, pk_un (by omega)]; exact h5 x a b
  · rcases h6 p hp with g | ⟨x, x1, x2, x3⟩
    · exact Or.inl g
    · refine Or.inr ⟨x, x1, x2, ?_⟩
      rw [xs_I2, xs_A2, if_pos rfl]
      by_cases hx2 : x = i
      · subst hx2
        rw [pk_us]
      · rw [pk_un hx2]; exact x3
  · rw [xs_I2, xs_A2, if_pos rfl]
    by_cases hx2 : x = i
    · subst hx2
      rw [pk_us]; exact Or.inr rfl
    · rw [pk_un hx2]; exact (h7 x hx).1
  · rw [xs_I1, if_pos rfl, xs_I2, xs_A2, if_pos rfl, xr_mny, xr_cn_add (by decide) hi hu, nI_succ]
    rw [h8, xr_mny]
theorem xr_core.low (h : xr_core n w σ τ) (hf : ∃ i, i < n ∧ σ.2 11 i = 0) : xs_low (σ.2 11) (n - 1) 0 < n ∧ σ.2 11 (xs_low (σ.2 11) (n - 1) 0) = 0 ∧ xs_low (τ.2 2) 31 0 = xs_low (σ.2 11) (n - 1) 0 := by
  obtain ⟨i, hi, hu⟩ := hf
  have h10 := h.2.2.2.2.2.2.2.2.2
  obtain ⟨a1, a2, a3⟩ := xs_low_is (σ.2 11) (n - 1) 0 i (by omega) (by omega) hu
  have hu' : τ.2 2 i = 0 := by rw [← h.ar 11 2 (by decide) hi]; exact hu
  obtain ⟨b1, b2, b3⟩ := xs_low_is (τ.2 2) 31 0 i (by omega) (by omega) hu'
  refine ⟨by omega, a1, ?_⟩
  rcases Nat.lt_trichotomy (xs_low (τ.2 2) 31 0) (xs_low (σ.2 11) (n - 1) 0) with g | g | g
  · exact absurd (by rw [h.ar 11 2 (by decide) (by omega)]; exact b1) (a3 _ (by omega) g)
  · exact g
  · exact absurd (by rw [← h.ar 11 2 (by decide) (by omega)]; exact a1) (b3 _ (by omega) g)
end XR3
end
section
/-! Contracts of the class: numbers, ranges. Laid by wip/gen/class1.py. -/
set_option maxRecDepth 100000 in
set_option maxHeartbeats 4000000 in
theorem xc_isW (P : xw_T) (σ τ : xf_T) (x a b : Int32) : xf_F (xw_l P) xny_SC_isWithin xnc_SC_isWithin 3 (some .boolean) 0 0 (xw_W P) (xw_D P) (xw_ty P) [.int x, .int a, .int b] (σ, τ) (some (.int (xs_isW x a b))) (σ, τ) := by
  refine xf_start (own := xnR_SC) [some (.int x), some (.int a), some (.int b)] rfl (by decide) (Nat.le_of_ble_eq_true rfl) rfl (xf_cat rfl) ?_
  intro X hX hE
  refine xf_iload_n hX 1 rfl 0 xnd_SC_isWithin_0 rfl rfl ?_
  refine xf_iload_n hX 2 rfl 1 xnd_SC_isWithin_1 rfl rfl ?_
  refine xf_icmp_lt hX 5 rfl 14 xnd_SC_isWithin_2 (by decide) (fun h2 => ?_) (fun h2 => ?_)
  · refine xf_iconst hX 15 rfl (0) xnd_SC_isWithin_14 (by decide) ?_
    refine xf_zret hX hE xnd_SC_isWithin_15 rfl ?_
    refine ⟨?_, rfl⟩
    simp only [xs_isW, h2, if_true, if_false]
  · refine xf_iload_n hX 6 rfl 0 xnd_SC_isWithin_5 rfl rfl ?_
    refine xf_iload_n hX 7 rfl 2 xnd_SC_isWithin_6 rfl rfl ?_
    refine xf_icmp_gt hX 10 rfl 14 xnd_SC_isWithin_7 (by decide) (fun h7 => ?_) (fun h7 => ?_)
    · refine xf_iconst hX 15 rfl (0) xnd_SC_isWithin_14 (by decide) ?_
      refine xf_zret hX hE xnd_SC_isWithin_15 rfl ?_
      refine ⟨?_, rfl⟩
      simp only [xs_isW, h2, h7, if_true, if_false]
    · refine xf_iconst hX 11 rfl (1) xnd_SC_isWithin_10 (by decide) ?_
      refine xf_goto hX 15 xnd_SC_isWithin_11 (by decide) ?_
      refine xf_zret hX hE xnd_SC_isWithin_15 rfl ?_
      refine ⟨?_, rfl⟩
      simp only [xs_isW, h2, h7, if_true, if_false]

set_option maxRecDepth 100000 in
set_option maxHeartbeats 4000000 in
theorem xc_isRd (P : xw_T) (σ τ : xf_T) (x : Int32) : xf_F (xw_l P) xny_SC_isReader xnc_SC_isReader 1 (some .boolean) 1 22 (xw_W P) (xw_D P) (xw_ty P) [.int x] (σ, τ) (some (.int (xs_isW x 0 2))) (σ, τ) := by
  refine xf_start (own := xnR_SC) [some (.int x)] rfl (by decide) (Nat.le_of_ble_eq_true rfl) rfl (xf_cat rfl) ?_
  intro X hX hE
  refine xf_iload_n hX 1 rfl 0 xnd_SC_isReader_0 rfl rfl ?_
  refine xf_iconst hX 2 rfl (0) xnd_SC_isReader_1 (by decide) ?_
  refine xf_iconst hX 3 rfl (2) xnd_SC_isReader_2 (by decide) ?_
  refine xf_S3i hX 6 rfl (xc_isW P _ _ _ _ _) xq_SC_isWithin xk_SC_18 rfl rfl xnd_SC_isReader_3 ?_
  refine xf_zret hX hE xnd_SC_isReader_6 (xs_isW_z _ _ _) ?_
  exact ⟨rfl, rfl⟩

set_option maxRecDepth 100000 in
set_option maxHeartbeats 4000000 in
theorem xc_mix (P : xw_T) (σ τ : xf_T) (k : Int32) : xf_F (xw_l P) xny_SC_mix xnc_SC_mix 1 (some .int) 0 0 (xw_W P) (xw_D P) (xw_ty P) [.int k] (σ, τ) (some (.int (xs_mix k))) (σ, τ) := by
  refine xf_start (own := xnR_SC) [some (.int k)] rfl (by decide) (Nat.le_of_ble_eq_true rfl) rfl (xf_cat rfl) ?_
  intro X hX hE
  refine xf_iload_n hX 1 rfl 0 xnd_SC_mix_0 rfl rfl ?_
  refine xf_iload_n hX 2 rfl 0 xnd_SC_mix_1 rfl rfl ?_
  refine xf_bipush hX 4 rfl (15) xnd_SC_mix_2 (by decide) ?_
  refine xf_iushr hX 5 rfl xnd_SC_mix_4 ?_
  refine xf_ixor hX 6 rfl xnd_SC_mix_5 ?_
  refine xf_ldc hX 8 rfl xkc_SC_161 xnd_SC_mix_6 ?_
  refine xf_imul hX 9 rfl xnd_SC_mix_8 ?_
  refine xf_iret hX hE xnd_SC_mix_9 ?_
  exact ⟨rfl, rfl⟩

set_option maxRecDepth 100000 in
set_option maxHeartbeats 4000000 in
theorem xc_tagOf (P : xw_T) (σ τ : xf_T) (k : Int32) : xf_F (xw_l P) xny_SC_tagOf xnc_SC_tagOf 1 (some .int) 1 20 (xw_W P) (xw_D P) (xw_ty P) [.int k] (σ, τ) (some (.int (xs_tag k))) (σ, τ) := by
  refine xf_start (own := xnR_SC) [some (.int k)] rfl (by decide) (Nat.le_of_ble_eq_true rfl) rfl (xf_cat rfl) ?_
  intro X hX hE
  refine xf_iload_n hX 1 rfl 0 xnd_SC_tagOf_0 rfl rfl ?_
  refine xf_S1i hX 4 rfl (xc_mix P _ _ _) xq_SC_mix xk_SC_162 rfl rfl xnd_SC_tagOf_1 ?_
  refine xf_bipush hX 6 rfl (28) xnd_SC_tagOf_4 (by decide) ?_
  refine xf_iushr hX 7 rfl xnd_SC_tagOf_6 ?_
  refine xf_iret hX hE xnd_SC_tagOf_7 ?_
  exact ⟨rfl, rfl⟩

set_option maxRecDepth 100000 in
set_option maxHeartbeats 4000000 in
theorem xc_stripeOf (P : xw_T) (σ τ : xf_T) (k : Int32) : xf_F (xw_l P) xny_SC_stripeOf xnc_SC_stripeOf 1 (some .int) 1 20 (xw_W P) (xw_D P) (xw_ty P) [.int k] (σ, τ) (some (.int (xs_str k))) (σ, τ) := by
  refine xf_start (own := xnR_SC) [some (.int k)] rfl (by decide) (Nat.le_of_ble_eq_true rfl) rfl (xf_cat rfl) ?_
  intro X hX hE
  refine xf_iload_n hX 1 rfl 0 xnd_SC_stripeOf_0 rfl rfl ?_
  refine xf_S1i hX 4 rfl (xc_mix P _ _ _) xq_SC_mix xk_SC_162 rfl rfl xnd_SC_stripeOf_1 ?_
  refine xf_bipush hX 6 rfl (23) xnd_SC_stripeOf_4 (by decide) ?_
  refine xf_iushr hX 7 rfl xnd_SC_stripeOf_6 ?_
  refine xf_iconst hX 8 rfl (3) xnd_SC_stripeOf_7 (by decide) ?_
  refine xf_iand hX 9 rfl xnd_SC_stripeOf_8 ?_
  refine xf_iret hX hE xnd_SC_stripeOf_9 ?_
  exact ⟨rfl, rfl⟩

set_option maxRecDepth 100000 in
set_option maxHeartbeats 4000000 in
theorem xc_firstBucket (P : xw_T) (σ τ : xf_T) (k : Int32) : xf_F (xw_l P) xny_SC_firstBucket xnc_SC_firstBucket 1 (some .int) 1 20 (xw_W P) (xw_D P) (xw_ty P) [.int k] (σ, τ) (some (.int (xs_b1 k))) (σ, τ) := by
  refine xf_start (own := xnR_SC) [some (.int k)] rfl (by decide) (Nat.le_of_ble_eq_true rfl) rfl (xf_cat rfl) ?_
  intro X hX hE
  refine xf_iload_n hX 1 rfl 0 xnd_SC_firstBucket_0 rfl rfl ?_
  refine xf_S1i hX 4 rfl (xc_mix P _ _ _) xq_SC_mix xk_SC_162 rfl rfl xnd_SC_firstBucket_1 ?_
  refine xf_bipush hX 6 rfl (25) xnd_SC_firstBucket_4 (by decide) ?_
  refine xf_iushr hX 7 rfl xnd_SC_firstBucket_6 ?_
  refine xf_bipush hX 9 rfl (7) xnd_SC_firstBucket_7 (by decide) ?_
  refine xf_iand hX 10 rfl xnd_SC_firstBucket_9 ?_
  refine xf_iret hX hE xnd_SC_firstBucket_10 ?_
  exact ⟨rfl, rfl⟩

set_option maxRecDepth 100000 in
set_option maxHeartbeats 4000000 in
theorem xc_ob (P : xw_T) (σ τ : xf_T) (b k : Int32) : xf_F (xw_l P) xny_SC_otherBucket xnc_SC_otherBucket 2 (some .int) 2 40 (xw_W P) (xw_D P) (xw_ty P) [.int b, .int k] (σ, τ) (some (.int (xs_ob b k))) (σ, τ) := by
  refine xf_start (own := xnR_SC) [some (.int b), some (.int k)] rfl (by decide) (Nat.le_of_ble_eq_true rfl) rfl (xf_cat rfl) ?_
  intro X hX hE
  refine xf_iload_n hX 1 rfl 0 xnd_SC_otherBucket_0 rfl rfl ?_
  refine xf_iconst hX 2 rfl (1) xnd_SC_otherBucket_1 (by decide) ?_
  refine xf_iload_n hX 3 rfl 1 xnd_SC_otherBucket_2 rfl rfl ?_
  refine xf_S1i hX 6 rfl (xc_tagOf P _ _ _) xq_SC_tagOf xk_SC_122 rfl rfl xnd_SC_otherBucket_3 ?_
  refine xf_bipush hX 8 rfl (7) xnd_SC_otherBucket_6 (by decide) ?_
  refine xf_irem hX 9 rfl xnd_SC_otherBucket_8 (by decide) ?_
  refine xf_iadd hX 10 rfl xnd_SC_otherBucket_9 ?_
  refine xf_ixor hX 11 rfl xnd_SC_otherBucket_10 ?_
  refine xf_iret hX hE xnd_SC_otherBucket_11 ?_
  exact ⟨rfl, rfl⟩

set_option maxRecDepth 100000 in
set_option maxHeartbeats 4000000 in
theorem xc_secondBucket (P : xw_T) (σ τ : xf_T) (k : Int32) : xf_F (xw_l P) xny_SC_secondBucket xnc_SC_secondBucket 1 (some .int) 3 61 (xw_W P) (xw_D P) (xw_ty P) [.int k] (σ, τ) (some (.int (xs_b2 k))) (σ, τ) := by
  refine xf_start (own := xnR_SC) [some (.int k)] rfl (by decide) (Nat.le_of_ble_eq_true rfl) rfl (xf_cat rfl) ?_
  intro X hX hE
  refine xf_iload_n hX 1 rfl 0 xnd_SC_secondBucket_0 rfl rfl ?_
  refine xf_S1i hX 4 rfl (xc_firstBucket P _ _ _) xq_SC_firstBucket xk_SC_116 rfl rfl xnd_SC_secondBucket_1 ?_
  refine xf_iload_n hX 5 rfl 0 xnd_SC_secondBucket_4 rfl rfl ?_
  refine xf_S2i hX 8 rfl (xc_ob P _ _ _ _) xq_SC_otherBucket xk_SC_165 rfl rfl xnd_SC_secondBucket_5 ?_
  refine xf_iret hX hE xnd_SC_secondBucket_8 ?_
  exact ⟨rfl, rfl⟩

set_option maxRecDepth 100000 in
set_option maxHeartbeats 4000000 in
theorem xc_hash (P : xw_T) (σ τ : xf_T) (k : Int32) : xf_F (xw_l P) xny_SC_hash xnc_SC_hash 2 (some .int) 4 81 (xw_W P) (xw_D P) (xw_ty P) [.ref (xw_a P 0), .int k] (σ, τ) (some (.int (xs_hash k))) (σ, τ) := by
  refine xf_start (own := xnR_SC) [some (.ref (xw_a P 0)), some (.int k)] rfl (by decide) (Nat.le_of_ble_eq_true rfl) rfl (xf_cat rfl) ?_
  intro X hX hE
  refine xf_iload_n hX 1 rfl 1 xnd_SC_hash_0 rfl rfl ?_
  refine xf_S1i hX 4 rfl (xc_firstBucket P _ _ _) xq_SC_firstBucket xk_SC_116 rfl rfl xnd_SC_hash_1 ?_
  refine xf_bipush hX 6 rfl (8) xnd_SC_hash_4 (by decide) ?_
  refine xf_iload_n hX 7 rfl 1 xnd_SC_hash_6 rfl rfl ?_
  refine xf_S1i hX 10 rfl (xc_secondBucket P _ _ _) xq_SC_secondBucket xk_SC_119 rfl rfl xnd_SC_hash_7 ?_
  refine xf_imul hX 11 rfl xnd_SC_hash_10 ?_
  refine xf_iadd hX 12 rfl xnd_SC_hash_11 ?_
  refine xf_bipush hX 14 rfl (64) xnd_SC_hash_12 (by decide) ?_
  refine xf_iload_n hX 15 rfl 1 xnd_SC_hash_14 rfl rfl ?_
  refine xf_S1i hX 18 rfl (xc_tagOf P _ _ _) xq_SC_tagOf xk_SC_122 rfl rfl xnd_SC_hash_15 ?_
  refine xf_imul hX 19 rfl xnd_SC_hash_18 ?_
  refine xf_iadd hX 20 rfl xnd_SC_hash_19 ?_
  refine xf_sipush hX 23 rfl (1024) xnd_SC_hash_20 (by decide) ?_
  refine xf_iload_n hX 24 rfl 1 xnd_SC_hash_23 rfl rfl ?_
  refine xf_S1i hX 27 rfl (xc_stripeOf P _ _ _) xq_SC_stripeOf xk_SC_125 rfl rfl xnd_SC_hash_24 ?_
  refine xf_imul hX 28 rfl xnd_SC_hash_27 ?_
  refine xf_iadd hX 29 rfl xnd_SC_hash_28 ?_
  refine xf_iret hX hE xnd_SC_hash_29 ?_
  exact ⟨rfl, rfl⟩
end
section
/-! Contracts of the class: the store. Laid by wip/gen/class2.py. -/
/-- places hold numbers of items -/
def xs_okP (n w : Nat) (σ : xf_T) : Prop := (∀ p, p < 8 * w → σ.2 5 p = -1 ∨ ∃ i, i < n ∧ σ.2 5 p = nI i) ∧ 1 ≤ n ∧ n ≤ 32 ∧ 1 ≤ w ∧ w ≤ 4
theorem xs_okP.in {n w : Nat} {σ : xf_T} (h : xs_okP n w σ) {p : Nat} (hp : p < 8 * w) (hn : ¬ σ.2 5 p = -1) : vp_in (σ.2 5 p) n := by
  rcases h.1 p hp with g | ⟨i, g1, g2⟩
  · exact absurd g hn
  · exact xs_in g2 g1 (by have := h.2; omega)
theorem xs_rmf_0 (pl : Nat → Int32) (i : Int32) : xs_rmf 0 pl i = pl := by
  funext p
  rw [xs_rmf, if_neg (by omega)]
theorem xs_rmf_s (pl : Nat → Int32) (i : Int32) (k : Nat) (h : ¬ pl k = i) : xs_rmf (k + 1) pl i = xs_rmf k pl i := by
  funext p
  rw [xs_rmf, xs_rmf]
  by_cases h1 : p < k
  · rw [if_pos h1, if_pos (by omega)]
  · rw [if_neg h1]
    by_cases h2 : p = k
    · subst h2
      rw [if_pos (by omega), if_neg h]
    · rw [if_neg (by omega)]
theorem xs_rmf_t (pl : Nat → Int32) (i : Int32) (k : Nat) (h : pl k = i) : upd (xs_rmf k pl i) k (-1) = xs_rmf (k + 1) pl i := by
  funext p
  by_cases h2 : p = k
  · subst h2
    rw [pk_us, xs_rmf, if_pos (by omega), if_pos h]
  · rw [pk_un h2, xs_rmf, xs_rmf]
    by_cases h1 : p < k
    · rw [if_pos h1, if_pos (show p < k + 1 by omega)]
    · rw [if_neg h1, if_neg (show ¬ p < k + 1 by omega)]
theorem xs_rmf_at (pl : Nat → Int32) (i : Int32) (k : Nat) : xs_rmf k pl i k = pl k := by rw [xs_rmf, if_neg (by omega)]
set_option maxRecDepth 100000 in
set_option maxHeartbeats 4000000 in
theorem xc_isFull (P : xw_T) (σ τ : xf_T) : xf_F (xw_l P) xny_ST_isFull xnc_ST_isFull 1 (some .boolean) 0 0 (xw_W P) (xw_D P) (xw_ty P) [.ref (xw_a P 2)] (σ, τ) (some (.int (xs_full (xw_n P) σ))) (σ, τ) := by
  refine xf_start (own := xnR_ST) [some (.ref (xw_a P 2))] rfl (by decide) (Nat.le_of_ble_eq_true rfl) rfl (xf_cat rfl) ?_
  intro X hX hE
  refine xf_aload_n hX 1 rfl 0 xnd_ST_isFull_0 rfl rfl ?_
  refine xg_ST_usedCount hX 4 rfl xk_ST_54 xnd_ST_isFull_1 ?_
  refine xf_aload_n hX 5 rfl 0 xnd_ST_isFull_4 rfl rfl ?_
  refine xg_ST_capacity hX 8 rfl xk_ST_15 xnd_ST_isFull_5 ?_
  refine xf_icmp_ne hX 11 rfl 15 xnd_ST_isFull_8 (by decide) (fun h8 => ?_) (fun h8 => ?_)
  · refine xf_iconst hX 16 rfl (0) xnd_ST_isFull_15 (by decide) ?_
    refine xf_zret hX hE xnd_ST_isFull_16 rfl ?_
    refine ⟨?_, rfl⟩
    simp only [xs_full, h8, if_true, if_false]
  · refine xf_iconst hX 12 rfl (1) xnd_ST_isFull_11 (by decide) ?_
    refine xf_goto hX 16 xnd_ST_isFull_12 (by decide) ?_
    refine xf_zret hX hE xnd_ST_isFull_16 rfl ?_
    refine ⟨?_, rfl⟩
    simp only [xs_full, eq_true h8, if_true, if_false]

set_option maxRecDepth 100000 in
set_option maxHeartbeats 4000000 in
theorem xc_isOver (P : xw_T) (σ τ : xf_T) (e : Int32) : xf_F (xw_l P) xny_ST_isOver xnc_ST_isOver 2 (some .boolean) 0 0 (xw_W P) (xw_D P) (xw_ty P) [.ref (xw_a P 2), .int e] (σ, τ) (some (.int (xs_over σ e))) (σ, τ) := by
  refine xf_start (own := xnR_ST) [some (.ref (xw_a P 2)), some (.int e)] rfl (by decide) (Nat.le_of_ble_eq_true rfl) rfl (xf_cat rfl) ?_
  intro X hX hE
  refine xf_iload_n hX 1 rfl 1 xnd_ST_isOver_0 rfl rfl ?_
  refine xf_if_eq hX 4 rfl 16 xnd_ST_isOver_1 (by decide) (fun h1 => ?_) (fun h1 => ?_)
  · refine xf_iconst hX 17 rfl (0) xnd_ST_isOver_16 (by decide) ?_
    refine xf_zret hX hE xnd_ST_isOver_17 rfl ?_
    refine ⟨?_, rfl⟩
    simp only [xs_over, eq_true h1, if_true, if_false]
  · refine xf_iload_n hX 5 rfl 1 xnd_ST_isOver_4 rfl rfl ?_
    refine xf_aload_n hX 6 rfl 0 xnd_ST_isOver_5 rfl rfl ?_
    refine xg_ST_time hX 9 rfl xk_ST_57 xnd_ST_isOver_6 ?_
    refine xf_icmp_gt hX 12 rfl 16 xnd_ST_isOver_9 (by decide) (fun h9 => ?_) (fun h9 => ?_)
    · refine xf_iconst hX 17 rfl (0) xnd_ST_isOver_16 (by decide) ?_
      refine xf_zret hX hE xnd_ST_isOver_17 rfl ?_
      refine ⟨?_, rfl⟩
      simp only [xs_over, h1, h9, if_true, if_false]
    · refine xf_iconst hX 13 rfl (1) xnd_ST_isOver_12 (by decide) ?_
      refine xf_goto hX 17 xnd_ST_isOver_13 (by decide) ?_
      refine xf_zret hX hE xnd_ST_isOver_17 rfl ?_
      refine ⟨?_, rfl⟩
      simp only [xs_over, h1, h9, if_true, if_false]

set_option maxRecDepth 100000 in
set_option maxHeartbeats 4000000 in
theorem xc_findIn (P : xw_T) (σ τ : xf_T) (b key : Int32) (ho : xs_okP (xw_n P) (xw_w P) σ) (hb : ∃ j, j < 8 ∧ b = nI j) : xf_F (xw_l P) xny_ST_findIn xnc_ST_findIn 5 (some .int) 0 0 (xw_W P) (xw_D P) (xw_ty P) [.ref (xw_a P 2), .int b, .int key] (σ, τ) (some (.int (xs_findIn (xw_w P) σ b key))) (σ, τ) := by
  refine xf_start (own := xnR_ST) [some (.ref (xw_a P 2)), some (.int b), some (.int key), none, none] rfl (by decide) (Nat.le_of_ble_eq_true rfl) rfl (xf_cat rfl) ?_
  intro X hX hE
  obtain ⟨j, hj, rfl⟩ := hb
  have hw := ho.2
  have h8 := xr_bkb (w := (xw_w P)) hj
  have e1 : nI (xw_w P) * (nI j + 1) = nI ((xw_w P) * j + (xw_w P)) := by rw [nI_1, pk_mul, Nat.mul_succ]
  have e2 : nI (xw_w P) * nI j = nI ((xw_w P) * j) := pk_mul _ _
  have eR : xs_findIn (xw_w P) σ (nI j) key = xs_fi (σ.2 5) (σ.2 6) key (xw_w P) ((xw_w P) * j) := by unfold xs_findIn; rw [nI_clamp (by omega)]
  rw [eR] at hE
  generalize hRR : xs_fi (σ.2 5) (σ.2 6) key (xw_w P) ((xw_w P) * j) = RR at hE
  have loop : ∀ r p, r + p = (xw_w P) * j + (xw_w P) → (xw_w P) * j ≤ p → xs_fi (σ.2 5) (σ.2 6) key r p = RR → xf_V X 17 [some (.ref (xw_a P 2)), some (.int (nI j)), some (.int key), some (.int (nI ((xw_w P) * j + (xw_w P)))), some (.int (nI p))] [] (σ, τ) := by
    intro r
    induction r with
    | zero =>
      intro p hp hp2 hR
      refine xf_iload hX 19 rfl xnd_ST_findIn_17 rfl ?_
      refine xf_iload_n hX 20 rfl 3 xnd_ST_findIn_19 rfl rfl ?_
      refine xf_icmp_ge hX 23 rfl 59 xnd_ST_findIn_20 (by decide) (fun _ => ?_) (fun h20 => absurd (nI_le (by omega) (by omega)) h20)
      refine xf_iconst hX 60 rfl (-1) xnd_ST_findIn_59 (by decide) ?_
      refine xf_iret hX hE xnd_ST_findIn_60 ?_
      exact ⟨by rw [← hR]; rfl, rfl⟩
    | succ r ih =>
      intro p hp hp2 hR
      refine xf_iload hX 19 rfl xnd_ST_findIn_17 rfl ?_
      refine xf_iload_n hX 20 rfl 3 xnd_ST_findIn_19 rfl rfl ?_
      refine xf_icmp_ge hX 23 rfl 59 xnd_ST_findIn_20 (by decide) (fun h20 => absurd h20 (nI_ge (by omega) (by omega))) (fun _ => ?_)
      refine xf_aload_n hX 24 rfl 0 xnd_ST_findIn_23 rfl rfl ?_
      refine xg_ST_places hX 27 rfl xk_ST_22 xnd_ST_findIn_24 ?_
      refine xf_iload hX 29 rfl xnd_ST_findIn_27 rfl ?_
      refine xaX_iaload hX 30 rfl rfl (show vp_in _ (8 * xw_w P) from vp_in_nI (by omega) (by omega)) xnd_ST_findIn_29 ?_
      rw [nI_clamp (by omega)]
      refine xf_iconst hX 31 rfl (-1) xnd_ST_findIn_30 (by decide) ?_
      refine xf_icmp_eq hX 34 rfl 53 xnd_ST_findIn_31 (by decide) (fun h31 => ?_) (fun h31 => ?_)
      · refine xf_iinc hX 56 rfl (nI (p + 1)) xnd_ST_findIn_53 rfl (by rw [nI_succ]; rfl) (by decide) ?_
        dsimp only [List.set]
        refine xf_goto hX 17 xnd_ST_findIn_56 (by decide) ?_
        refine ih (p + 1) (by omega) (by omega) ?_
        rw [← hR, xs_fi]
        simp only [eq_true h31, if_true, if_false]
      · refine xf_aload_n hX 35 rfl 0 xnd_ST_findIn_34 rfl rfl ?_
        refine xg_ST_keys hX 38 rfl xk_ST_32 xnd_ST_findIn_35 ?_
        refine xf_aload_n hX 39 rfl 0 xnd_ST_findIn_38 rfl rfl ?_
        refine xg_ST_places hX 42 rfl xk_ST_22 xnd_ST_findIn_39 ?_
        refine xf_iload hX 44 rfl xnd_ST_findIn_42 rfl ?_
        refine xaX_iaload hX 45 rfl rfl (show vp_in _ (8 * xw_w P) from vp_in_nI (by omega) (by omega)) xnd_ST_findIn_44 ?_
        rw [nI_clamp (by omega)]
        refine xaX_iaload hX 46 rfl rfl (ho.in (by omega) h31) xnd_ST_findIn_45 ?_
        refine xf_iload_n hX 47 rfl 2 xnd_ST_findIn_46 rfl rfl ?_
        refine xf_icmp_ne hX 50 rfl 53 xnd_ST_findIn_47 (by decide) (fun h47 => ?_) (fun h47 => ?_)
        · refine xf_iinc hX 56 rfl (nI (p + 1)) xnd_ST_findIn_53 rfl (by rw [nI_succ]; rfl) (by decide) ?_
          dsimp only [List.set]
          refine xf_goto hX 17 xnd_ST_findIn_56 (by decide) ?_
          refine ih (p + 1) (by omega) (by omega) ?_
          rw [← hR, xs_fi]
          simp only [h31, h47, if_true, if_false]
        · refine xf_iload hX 52 rfl xnd_ST_findIn_50 rfl ?_
          refine xf_iret hX hE xnd_ST_findIn_52 ?_
          refine ⟨?_, rfl⟩
          rw [← hR, xs_fi]
          simp only [h31, eq_true h47, if_true, if_false]
  refine xf_aload_n hX 1 rfl 0 xnd_ST_findIn_0 rfl rfl ?_
  refine xg_ST_ways hX 4 rfl xk_ST_19 xnd_ST_findIn_1 ?_
  refine xf_iload_n hX 5 rfl 1 xnd_ST_findIn_4 rfl rfl ?_
  refine xf_iconst hX 6 rfl (1) xnd_ST_findIn_5 (by decide) ?_
  refine xf_iadd hX 7 rfl xnd_ST_findIn_6 ?_
  refine xf_imul hX 8 rfl xnd_ST_findIn_7 ?_
  refine xf_istore_n hX 9 rfl 3 xnd_ST_findIn_8 rfl (by decide) ?_
  dsimp only [List.set]
  refine xf_aload_n hX 10 rfl 0 xnd_ST_findIn_9 rfl rfl ?_
  refine xg_ST_ways hX 13 rfl xk_ST_19 xnd_ST_findIn_10 ?_
  refine xf_iload_n hX 14 rfl 1 xnd_ST_findIn_13 rfl rfl ?_
  refine xf_imul hX 15 rfl xnd_ST_findIn_14 ?_
  refine xf_istore hX 17 rfl xnd_ST_findIn_15 (by decide) ?_
  dsimp only [List.set]
  rw [e1, e2]
  exact loop (xw_w P) ((xw_w P) * j) (by omega) (by omega) hRR

set_option maxRecDepth 100000 in
set_option maxHeartbeats 4000000 in
theorem xc_find (P : xw_T) (σ τ : xf_T) (key : Int32) (ho : xs_okP (xw_n P) (xw_w P) σ) : xf_F (xw_l P) xny_ST_find xnc_ST_find 3 (some .int) 4 81 (xw_W P) (xw_D P) (xw_ty P) [.ref (xw_a P 2), .int key] (σ, τ) (some (.int (xs_find (xw_w P) σ key))) (σ, τ) := by
  refine xf_start (own := xnR_ST) [some (.ref (xw_a P 2)), some (.int key), none] rfl (by decide) (Nat.le_of_ble_eq_true rfl) rfl (xf_cat rfl) ?_
  intro X hX hE
  refine xf_aload_n hX 1 rfl 0 xnd_ST_find_0 rfl rfl ?_
  refine xf_iload_n hX 2 rfl 1 xnd_ST_find_1 rfl rfl ?_
  refine xf_T1i hX 5 rfl (xc_firstBucket P _ _ _) xq_SC_firstBucket xk_ST_60 rfl rfl xnd_ST_find_2 ?_
  refine xf_iload_n hX 6 rfl 1 xnd_ST_find_5 rfl rfl ?_
  refine xf_V2i hX 9 rfl (xc_findIn P _ _ _ _ ho (xs_b1_is _)) xq_ST_findIn xk_ST_64 xrX_ST rfl rfl xnd_ST_find_6 ?_
  refine xf_istore_n hX 10 rfl 2 xnd_ST_find_9 rfl (by decide) ?_
  dsimp only [List.set]
  refine xf_iload_n hX 11 rfl 2 xnd_ST_find_10 rfl rfl ?_
  refine xf_iconst hX 12 rfl (-1) xnd_ST_find_11 (by decide) ?_
  refine xf_icmp_eq hX 15 rfl 19 xnd_ST_find_12 (by decide) (fun h12 => ?_) (fun h12 => ?_)
  · refine xf_aload_n hX 20 rfl 0 xnd_ST_find_19 rfl rfl ?_
    refine xf_iload_n hX 21 rfl 1 xnd_ST_find_20 rfl rfl ?_
    refine xf_T1i hX 24 rfl (xc_secondBucket P _ _ _) xq_SC_secondBucket xk_ST_68 rfl rfl xnd_ST_find_21 ?_
    refine xf_iload_n hX 25 rfl 1 xnd_ST_find_24 rfl rfl ?_
    refine xf_V2i hX 28 rfl (xc_findIn P _ _ _ _ ho (xs_b2_is _)) xq_ST_findIn xk_ST_64 xrX_ST rfl rfl xnd_ST_find_25 ?_
    refine xf_iret hX hE xnd_ST_find_28 ?_
    refine ⟨?_, rfl⟩
    simp only [xs_find, eq_true h12, if_true, if_false]
  · refine xf_iload_n hX 16 rfl 2 xnd_ST_find_15 rfl rfl ?_
    refine xf_goto hX 28 xnd_ST_find_16 (by decide) ?_
    refine xf_iret hX hE xnd_ST_find_28 ?_
    refine ⟨?_, rfl⟩
    simp only [xs_find, h12, if_true, if_false]

set_option maxRecDepth 100000 in
set_option maxHeartbeats 4000000 in
theorem xc_versionFor (P : xw_T) (σ τ : xf_T) (key : Int32) : xf_F (xw_l P) xny_ST_versionFor xnc_ST_versionFor 2 (some .int) 2 40 (xw_W P) (xw_D P) (xw_ty P) [.ref (xw_a P 2), .int key] (σ, τ) (some (.int (xs_ver σ key))) (σ, τ) := by
  refine xf_start (own := xnR_ST) [some (.ref (xw_a P 2)), some (.int key)] rfl (by decide) (Nat.le_of_ble_eq_true rfl) rfl (xf_cat rfl) ?_
  intro X hX hE
  refine xf_aload_n hX 1 rfl 0 xnd_ST_versionFor_0 rfl rfl ?_
  refine xg_ST_versions hX 4 rfl xk_ST_51 xnd_ST_versionFor_1 ?_
  refine xf_iload_n hX 5 rfl 1 xnd_ST_versionFor_4 rfl rfl ?_
  refine xf_T1i hX 8 rfl (xc_stripeOf P _ _ _) xq_SC_stripeOf xk_ST_82 rfl rfl xnd_ST_versionFor_5 ?_
  refine xaX_iaload hX 9 rfl rfl (xs_str_in _) xnd_ST_versionFor_8 ?_
  refine xf_iret hX hE xnd_ST_versionFor_9 ?_
  exact ⟨rfl, rfl⟩

set_option maxRecDepth 100000 in
set_option maxHeartbeats 4000000 in
theorem xc_grow (P : xw_T) (σ τ : xf_T) (key d : Int32) : xf_F (xw_l P) xny_ST_growVersion xnc_ST_growVersion 3 none 2 40 (xw_W P) (xw_D P) (xw_ty P) [.ref (xw_a P 2), .int key, .int d] (σ, τ) none (xs_grow σ key d, τ) := by
  refine xf_start (own := xnR_ST) [some (.ref (xw_a P 2)), some (.int key), some (.int d)] rfl (by decide) (Nat.le_of_ble_eq_true rfl) rfl (xf_cat rfl) ?_
  intro X hX hE
  refine xf_aload_n hX 1 rfl 0 xnd_ST_growVersion_0 rfl rfl ?_
  refine xg_ST_versions hX 4 rfl xk_ST_51 xnd_ST_growVersion_1 ?_
  refine xf_iload_n hX 5 rfl 1 xnd_ST_growVersion_4 rfl rfl ?_
  refine xf_T1i hX 8 rfl (xc_stripeOf P _ _ _) xq_SC_stripeOf xk_ST_82 rfl rfl xnd_ST_growVersion_5 ?_
  refine xf_dup2 hX 9 rfl xnd_ST_growVersion_8 rfl rfl ?_
  refine xaX_iaload hX 10 rfl rfl (xs_str_in _) xnd_ST_growVersion_9 ?_
  refine xf_iload_n hX 11 rfl 2 xnd_ST_growVersion_10 rfl rfl ?_
  refine xf_iadd hX 12 rfl xnd_ST_growVersion_11 ?_
  refine xaX_iastore hX 13 rfl rfl (xs_str_in _) xnd_ST_growVersion_12 ?_
  refine xf_vret hX hE xnd_ST_growVersion_13 ?_
  exact ⟨rfl, rfl⟩

set_option maxRecDepth 100000 in
set_option maxHeartbeats 4000000 in
theorem xc_renew (P : xw_T) (σ τ : xf_T) (i life : Int32) (hi : vp_in i (xw_n P)) : xf_F (xw_l P) xny_ST_renew xnc_ST_renew 3 none 0 0 (xw_W P) (xw_D P) (xw_ty P) [.ref (xw_a P 2), .int i, .int life] (σ, τ) none (xs_renew σ i life, τ) := by
  refine xf_start (own := xnR_ST) [some (.ref (xw_a P 2)), some (.int i), some (.int life)] rfl (by decide) (Nat.le_of_ble_eq_true rfl) rfl (xf_cat rfl) ?_
  intro X hX hE
  refine xf_aload_n hX 1 rfl 0 xnd_ST_renew_0 rfl rfl ?_
  refine xf_dup hX 2 rfl xnd_ST_renew_1 rfl ?_
  refine xg_ST_latestToken hX 5 rfl xk_ST_89 xnd_ST_renew_2 ?_
  refine xf_iconst hX 6 rfl (1) xnd_ST_renew_5 (by decide) ?_
  refine xf_iadd hX 7 rfl xnd_ST_renew_6 ?_
  refine xp_ST_latestToken hX 10 rfl xk_ST_89 xnd_ST_renew_7 ?_
  refine xf_aload_n hX 11 rfl 0 xnd_ST_renew_10 rfl rfl ?_
  refine xg_ST_tokens hX 14 rfl xk_ST_38 xnd_ST_renew_11 ?_
  refine xf_iload_n hX 15 rfl 1 xnd_ST_renew_14 rfl rfl ?_
  refine xf_aload_n hX 16 rfl 0 xnd_ST_renew_15 rfl rfl ?_
  refine xg_ST_latestToken hX 19 rfl xk_ST_89 xnd_ST_renew_16 ?_
  refine xaX_iastore hX 20 rfl rfl hi xnd_ST_renew_19 ?_
  refine xf_aload_n hX 21 rfl 0 xnd_ST_renew_20 rfl rfl ?_
  refine xg_ST_expiries hX 24 rfl xk_ST_41 xnd_ST_renew_21 ?_
  refine xf_iload_n hX 25 rfl 1 xnd_ST_renew_24 rfl rfl ?_
  refine xf_iload_n hX 26 rfl 2 xnd_ST_renew_25 rfl rfl ?_
  refine xf_if_ne hX 29 rfl 33 xnd_ST_renew_26 (by decide) (fun h26 => ?_) (fun h26 => ?_)
  · refine xf_aload_n hX 34 rfl 0 xnd_ST_renew_33 rfl rfl ?_
    refine xg_ST_time hX 37 rfl xk_ST_57 xnd_ST_renew_34 ?_
    refine xf_iload_n hX 38 rfl 2 xnd_ST_renew_37 rfl rfl ?_
    refine xf_iadd hX 39 rfl xnd_ST_renew_38 ?_
    refine xaX_iastore hX 40 rfl rfl hi xnd_ST_renew_39 ?_
    refine xf_vret hX hE xnd_ST_renew_40 ?_
    refine ⟨rfl, ?_⟩
    simp only [xs_renew, h26, if_true, if_false]
    rfl
  · refine xf_iconst hX 30 rfl (0) xnd_ST_renew_29 (by decide) ?_
    refine xf_goto hX 39 xnd_ST_renew_30 (by decide) ?_
    refine xaX_iastore hX 40 rfl rfl hi xnd_ST_renew_39 ?_
    refine xf_vret hX hE xnd_ST_renew_40 ?_
    refine ⟨rfl, ?_⟩
    simp only [xs_renew, eq_true h26, if_true, if_false]
    rfl
end
section
/-! Contracts of the class: the store, its looks and its items. Laid by wip/gen/class3.py. -/
set_option maxRecDepth 100000 in
set_option maxHeartbeats 4000000 in
theorem xc_lkIn (P : xw_T) (σ τ : xf_T) (b key : Int32) (ho : xs_okP (xw_n P) (xw_w P) σ) (hb : ∃ j, j < 8 ∧ b = nI j) : xf_F (xw_l P) xny_ST_lookUpIn xnc_ST_lookUpIn 6 (some .int) 2 40 (xw_W P) (xw_D P) (xw_ty P) [.ref (xw_a P 2), .int b, .int key] (σ, τ) (some (.int (xs_findIn (xw_w P) σ b key))) (xs_lkIn (xw_w P) σ b key, τ) := by
  refine xf_start (own := xnR_ST) [some (.ref (xw_a P 2)), some (.int b), some (.int key), none, none, none] rfl (by decide) (Nat.le_of_ble_eq_true rfl) rfl (xf_cat rfl) ?_
  intro X hX hE
  obtain ⟨j, hj, rfl⟩ := hb
  have hw := ho.2
  have h8 := xr_bkb (w := (xw_w P)) hj
  have e1 : nI (xw_w P) * (nI j + 1) = nI ((xw_w P) * j + (xw_w P)) := by rw [nI_1, pk_mul, Nat.mul_succ]
  have e2 : nI (xw_w P) * nI j = nI ((xw_w P) * j) := pk_mul _ _
  have ecl : (nI j).toNatClampNeg = j := nI_clamp (by omega)
  generalize hF : xs_findIn (xw_w P) σ (nI j) key = F at hE
  have hFc : F = -1 ∨ ∃ q, (xw_w P) * j ≤ q ∧ q < (xw_w P) * j + (xw_w P) ∧ F = nI q := by
    rw [← hF]
    unfold xs_findIn
    rw [ecl]
    rcases xs_fi_is (σ.2 5) (σ.2 6) key (xw_w P) ((xw_w P) * j) with g | ⟨q, g1, g2, g3, -⟩
    · exact Or.inl g
    · exact Or.inr ⟨q, g1, g2, g3⟩
  obtain ⟨cc0, hcc⟩ : ∃ c, c = (if F = -1 then (xw_w P) else F.toNatClampNeg - (xw_w P) * j) := ⟨_, rfl⟩
  have hcw : cc0 ≤ (xw_w P) := by
    rw [hcc]
    rcases hFc with g | ⟨q, g1, g2, g3⟩
    · rw [if_pos g]; exact Nat.le_refl _
    · rw [g3, if_neg (xb_nIm1 (by omega)), nI_clamp (by omega)]; omega
  generalize hNR : xs_nr (σ.2 5) (σ.2 6) key cc0 ((xw_w P) * j) (σ.1 4) = NR
  have hFin : xs_lkIn (xw_w P) σ (nI j) key = xf_I σ 4 NR := by
    unfold xs_lkIn
    rw [hF, ← hNR, hcc]
    unfold xs_cn
    rw [ecl]
  have loop : ∀ r p acc, r + p = (xw_w P) * j + cc0 → (xw_w P) * j ≤ p → xs_nr (σ.2 5) (σ.2 6) key r p acc = NR → xf_V X 34 [some (.ref (xw_a P 2)), some (.int (nI j)), some (.int key), some (.int F), some (.int (nI ((xw_w P) * j + cc0))), some (.int (nI p))] [] (xf_I σ 4 acc, τ) := by
    intro r
    induction r with
    | zero =>
      intro p acc hp hp2 hR
      refine xf_iload hX 36 rfl xnd_ST_lookUpIn_34 rfl ?_
      refine xf_iload hX 38 rfl xnd_ST_lookUpIn_36 rfl ?_
      refine xf_icmp_ge hX 41 rfl 93 xnd_ST_lookUpIn_38 (by decide) (fun _ => ?_) (fun h38 => absurd (nI_le (by omega) (by omega)) h38)
      refine xf_iload_n hX 94 rfl 3 xnd_ST_lookUpIn_93 rfl rfl ?_
      refine xf_iret hX hE xnd_ST_lookUpIn_94 ?_
      exact ⟨rfl, by rw [hFin, ← hR]; rfl⟩
    | succ r ih =>
      intro p acc hp hp2 hR
      refine xf_iload hX 36 rfl xnd_ST_lookUpIn_34 rfl ?_
      refine xf_iload hX 38 rfl xnd_ST_lookUpIn_36 rfl ?_
      refine xf_icmp_ge hX 41 rfl 93 xnd_ST_lookUpIn_38 (by decide) (fun h38 => absurd h38 (nI_ge (by omega) (by omega))) (fun _ => ?_)
      refine xf_aload_n hX 42 rfl 0 xnd_ST_lookUpIn_41 rfl rfl ?_
      refine xg_ST_places hX 45 rfl xk_ST_22 xnd_ST_lookUpIn_42 ?_
      refine xf_iload hX 47 rfl xnd_ST_lookUpIn_45 rfl ?_
      refine xaX_iaload hX 48 rfl rfl (show vp_in _ (8 * xw_w P) from vp_in_nI (by omega) (by omega)) xnd_ST_lookUpIn_47 ?_
      rw [nI_clamp (by omega), xs_I2]
      refine xf_iconst hX 49 rfl (-1) xnd_ST_lookUpIn_48 (by decide) ?_
      refine xf_icmp_eq hX 52 rfl 87 xnd_ST_lookUpIn_49 (by decide) (fun h49 => ?_) (fun h49 => ?_)
      · refine xf_iinc hX 90 rfl (nI (p + 1)) xnd_ST_lookUpIn_87 rfl (by rw [nI_succ]; rfl) (by decide) ?_
        dsimp only [List.set]
        refine xf_goto hX 34 xnd_ST_lookUpIn_90 (by decide) ?_
        refine ih (p + 1) _ (by omega) (by omega) ?_
        rw [← hR, xs_nr]
        simp only [eq_true h49, if_true, if_false]
      · refine xf_aload_n hX 53 rfl 0 xnd_ST_lookUpIn_52 rfl rfl ?_
        refine xg_ST_keys hX 56 rfl xk_ST_32 xnd_ST_lookUpIn_53 ?_
        refine xf_aload_n hX 57 rfl 0 xnd_ST_lookUpIn_56 rfl rfl ?_
        refine xg_ST_places hX 60 rfl xk_ST_22 xnd_ST_lookUpIn_57 ?_
        refine xf_iload hX 62 rfl xnd_ST_lookUpIn_60 rfl ?_
        refine xaX_iaload hX 63 rfl rfl (show vp_in _ (8 * xw_w P) from vp_in_nI (by omega) (by omega)) xnd_ST_lookUpIn_62 ?_
        rw [nI_clamp (by omega), xs_I2]
        refine xaX_iaload hX 64 rfl rfl (ho.in (by omega) h49) xnd_ST_lookUpIn_63 ?_
        rw [xs_I2]
        refine xf_T1i hX 67 rfl (xc_tagOf P _ _ _) xq_SC_tagOf xk_ST_74 rfl rfl xnd_ST_lookUpIn_64 ?_
        refine xf_iload_n hX 68 rfl 2 xnd_ST_lookUpIn_67 rfl rfl ?_
        refine xf_T1i hX 71 rfl (xc_tagOf P _ _ _) xq_SC_tagOf xk_ST_74 rfl rfl xnd_ST_lookUpIn_68 ?_
        refine xf_icmp_ne hX 74 rfl 87 xnd_ST_lookUpIn_71 (by decide) (fun h71 => ?_) (fun h71 => ?_)
        · refine xf_iinc hX 90 rfl (nI (p + 1)) xnd_ST_lookUpIn_87 rfl (by rw [nI_succ]; rfl) (by decide) ?_
          dsimp only [List.set]
          refine xf_goto hX 34 xnd_ST_lookUpIn_90 (by decide) ?_
          refine ih (p + 1) _ (by omega) (by omega) ?_
          rw [← hR, xs_nr]
          simp only [h49, h71, if_true, if_false]
        · refine xf_aload_n hX 75 rfl 0 xnd_ST_lookUpIn_74 rfl rfl ?_
          refine xg_ST_tally hX 78 rfl xk_ST_9 xnd_ST_lookUpIn_75 ?_
          refine xf_dup hX 79 rfl xnd_ST_lookUpIn_78 rfl ?_
          refine xg_TA_nearMisses hX 82 rfl xk_ST_77 xnd_ST_lookUpIn_79 ?_
          refine xf_iconst hX 83 rfl (1) xnd_ST_lookUpIn_82 (by decide) ?_
          refine xf_iadd hX 84 rfl xnd_ST_lookUpIn_83 ?_
          refine xp_TA_nearMisses hX 87 rfl xk_ST_77 xnd_ST_lookUpIn_84 ?_
          change xf_V X 87 _ [] (xf_I (xf_I σ 4 acc) 4 (acc + 1), τ)
          rw [xs_II]
          refine xf_iinc hX 90 rfl (nI (p + 1)) xnd_ST_lookUpIn_87 rfl (by rw [nI_succ]; rfl) (by decide) ?_
          dsimp only [List.set]
          refine xf_goto hX 34 xnd_ST_lookUpIn_90 (by decide) ?_
          refine ih (p + 1) _ (by omega) (by omega) ?_
          rw [← hR, xs_nr]
          simp only [h49, eq_true h71, if_true, if_false]
  have K : ∀ E, E = nI ((xw_w P) * j + cc0) → xf_V X 24 [some (.ref (xw_a P 2)), some (.int (nI j)), some (.int key), some (.int F), none, none] [.int E] (σ, τ) := by
    intro E hEE
    subst hEE
    refine xf_istore hX 26 rfl xnd_ST_lookUpIn_24 (by decide) ?_
    dsimp only [List.set]
    refine xf_aload_n hX 27 rfl 0 xnd_ST_lookUpIn_26 rfl rfl ?_
    refine xg_ST_ways hX 30 rfl xk_ST_19 xnd_ST_lookUpIn_27 ?_
    refine xf_iload_n hX 31 rfl 1 xnd_ST_lookUpIn_30 rfl rfl ?_
    refine xf_imul hX 32 rfl xnd_ST_lookUpIn_31 ?_
    refine xf_istore hX 34 rfl xnd_ST_lookUpIn_32 (by decide) ?_
    dsimp only [List.set]
    rw [e2]
    have V := loop cc0 ((xw_w P) * j) (σ.1 4) (by omega) (by omega) hNR
    rw [xs_I_id] at V
    exact V
  refine xf_aload_n hX 1 rfl 0 xnd_ST_lookUpIn_0 rfl rfl ?_
  refine xf_iload_n hX 2 rfl 1 xnd_ST_lookUpIn_1 rfl rfl ?_
  refine xf_iload_n hX 3 rfl 2 xnd_ST_lookUpIn_2 rfl rfl ?_
  refine xf_V2i hX 6 rfl (xc_findIn P _ _ _ _ ho ⟨j, hj, rfl⟩) xq_ST_findIn xk_ST_64 xrX_ST rfl rfl xnd_ST_lookUpIn_3 ?_
  rw [hF]
  refine xf_istore_n hX 7 rfl 3 xnd_ST_lookUpIn_6 rfl (by decide) ?_
  dsimp only [List.set]
  refine xf_iload_n hX 8 rfl 3 xnd_ST_lookUpIn_7 rfl rfl ?_
  refine xf_iconst hX 9 rfl (-1) xnd_ST_lookUpIn_8 (by decide) ?_
  refine xf_icmp_eq hX 12 rfl 16 xnd_ST_lookUpIn_9 (by decide) (fun h9 => ?_) (fun h9 => ?_)
  · refine xf_aload_n hX 17 rfl 0 xnd_ST_lookUpIn_16 rfl rfl ?_
    refine xg_ST_ways hX 20 rfl xk_ST_19 xnd_ST_lookUpIn_17 ?_
    refine xf_iload_n hX 21 rfl 1 xnd_ST_lookUpIn_20 rfl rfl ?_
    refine xf_iconst hX 22 rfl (1) xnd_ST_lookUpIn_21 (by decide) ?_
    refine xf_iadd hX 23 rfl xnd_ST_lookUpIn_22 ?_
    refine xf_imul hX 24 rfl xnd_ST_lookUpIn_23 ?_
    refine K _ ?_
    rw [e1, hcc, if_pos h9]
  · refine xf_iload_n hX 13 rfl 3 xnd_ST_lookUpIn_12 rfl rfl ?_
    refine xf_goto hX 24 xnd_ST_lookUpIn_13 (by decide) ?_
    refine K _ ?_
    rcases hFc with g | ⟨q, g1, g2, g3⟩
    · exact absurd g h9
    · rw [hcc, if_neg h9, g3, nI_clamp (by omega)]; congr 1; omega

theorem xs_okP.lk {n w : Nat} {σ : xf_T} (h : xs_okP n w σ) (b key : Int32) : xs_okP n w (xs_lkIn w σ b key) := h
set_option maxRecDepth 100000 in
set_option maxHeartbeats 4000000 in
theorem xc_lk (P : xw_T) (σ τ : xf_T) (key : Int32) (ho : xs_okP (xw_n P) (xw_w P) σ) : xf_F (xw_l P) xny_ST_lookUp xnc_ST_lookUp 3 (some .int) 4 81 (xw_W P) (xw_D P) (xw_ty P) [.ref (xw_a P 2), .int key] (σ, τ) (some (.int (xs_find (xw_w P) σ key))) (xs_lk (xw_w P) σ key, τ) := by
  refine xf_start (own := xnR_ST) [some (.ref (xw_a P 2)), some (.int key), none] rfl (by decide) (Nat.le_of_ble_eq_true rfl) rfl (xf_cat rfl) ?_
  intro X hX hE
  refine xf_aload_n hX 1 rfl 0 xnd_ST_lookUp_0 rfl rfl ?_
  refine xf_iload_n hX 2 rfl 1 xnd_ST_lookUp_1 rfl rfl ?_
  refine xf_T1i hX 5 rfl (xc_firstBucket P _ _ _) xq_SC_firstBucket xk_ST_60 rfl rfl xnd_ST_lookUp_2 ?_
  refine xf_iload_n hX 6 rfl 1 xnd_ST_lookUp_5 rfl rfl ?_
  refine xf_V2i hX 9 rfl (xc_lkIn P _ _ _ _ ho (xs_b1_is _)) xq_ST_lookUpIn xk_ST_71 xrX_ST rfl rfl xnd_ST_lookUp_6 ?_
  refine xf_istore_n hX 10 rfl 2 xnd_ST_lookUp_9 rfl (by decide) ?_
  dsimp only [List.set]
  refine xf_iload_n hX 11 rfl 2 xnd_ST_lookUp_10 rfl rfl ?_
  refine xf_iconst hX 12 rfl (-1) xnd_ST_lookUp_11 (by decide) ?_
  refine xf_icmp_eq hX 15 rfl 19 xnd_ST_lookUp_12 (by decide) (fun h12 => ?_) (fun h12 => ?_)
  · refine xf_aload_n hX 20 rfl 0 xnd_ST_lookUp_19 rfl rfl ?_
    refine xf_iload_n hX 21 rfl 1 xnd_ST_lookUp_20 rfl rfl ?_
    refine xf_T1i hX 24 rfl (xc_secondBucket P _ _ _) xq_SC_secondBucket xk_ST_68 rfl rfl xnd_ST_lookUp_21 ?_
    refine xf_iload_n hX 25 rfl 1 xnd_ST_lookUp_24 rfl rfl ?_
    refine xf_V2i hX 28 rfl (xc_lkIn P _ _ _ _ (ho.lk _ _) (xs_b2_is _)) xq_ST_lookUpIn xk_ST_71 xrX_ST rfl rfl xnd_ST_lookUp_25 ?_
    refine xf_iret hX hE xnd_ST_lookUp_28 ?_
    refine ⟨?_, ?_⟩ <;> simp only [xs_find, xs_lk, eq_true h12, if_true, if_false] <;> rfl
  · refine xf_iload_n hX 16 rfl 2 xnd_ST_lookUp_15 rfl rfl ?_
    refine xf_goto hX 28 xnd_ST_lookUp_16 (by decide) ?_
    refine xf_iret hX hE xnd_ST_lookUp_28 ?_
    refine ⟨?_, ?_⟩ <;> simp only [xs_find, xs_lk, h12, if_true, if_false] <;> rfl

set_option maxRecDepth 100000 in
set_option maxHeartbeats 4000000 in
theorem xc_remove (P : xw_T) (σ τ : xf_T) (i : Int32) (ho : xs_okP (xw_n P) (xw_w P) σ) (hi : vp_in i (xw_n P)) : xf_F (xw_l P) xny_ST_remove xnc_ST_remove 3 none 3 62 (xw_W P) (xw_D P) (xw_ty P) [.ref (xw_a P 2), .int i] (σ, τ) none (xs_remove (xw_w P) σ i, τ) := by
  refine xf_start (own := xnR_ST) [some (.ref (xw_a P 2)), some (.int i), none] rfl (by decide) (Nat.le_of_ble_eq_true rfl) rfl (xf_cat rfl) ?_
  intro X hX hE
  have hw := ho.2
  have K : xf_V X 34 [some (.ref (xw_a P 2)), some (.int i), some (.int (nI (8 * (xw_w P))))] [] (xs_sA σ 5 (xs_rmf (8 * (xw_w P)) (σ.2 5) i), τ) := by
    refine xf_aload_n hX 35 rfl 0 xnd_ST_remove_34 rfl rfl ?_
    refine xg_ST_usedFlags hX 38 rfl xk_ST_48 xnd_ST_remove_35 ?_
    refine xf_iload_n hX 39 rfl 1 xnd_ST_remove_38 rfl rfl ?_
    refine xf_iconst hX 40 rfl (0) xnd_ST_remove_39 (by decide) ?_
    refine xaX_bastore hX 41 rfl rfl hi rfl xnd_ST_remove_40 ?_
    refine xf_aload_n hX 42 rfl 0 xnd_ST_remove_41 rfl rfl ?_
    refine xf_dup hX 43 rfl xnd_ST_remove_42 rfl ?_
    refine xg_ST_usedCount hX 46 rfl xk_ST_54 xnd_ST_remove_43 ?_
    refine xf_iconst hX 47 rfl (1) xnd_ST_remove_46 (by decide) ?_
    refine xf_isub hX 48 rfl xnd_ST_remove_47 ?_
    refine xp_ST_usedCount hX 51 rfl xk_ST_54 xnd_ST_remove_48 ?_
    refine xf_aload_n hX 52 rfl 0 xnd_ST_remove_51 rfl rfl ?_
    refine xf_aload_n hX 53 rfl 0 xnd_ST_remove_52 rfl rfl ?_
    refine xg_ST_keys hX 56 rfl xk_ST_32 xnd_ST_remove_53 ?_
    refine xf_iload_n hX 57 rfl 1 xnd_ST_remove_56 rfl rfl ?_
    refine xaX_iaload hX 58 rfl rfl hi xnd_ST_remove_57 ?_
    refine xf_iconst hX 59 rfl (2) xnd_ST_remove_58 (by decide) ?_
    refine xf_V2v hX 62 rfl (xc_grow P _ _ _ _) xq_ST_growVersion xk_ST_85 xrX_ST rfl rfl xnd_ST_remove_59 ?_
    refine xf_vret hX hE xnd_ST_remove_62 ?_
    exact ⟨rfl, rfl⟩
  have loop : ∀ r p, r + p = 8 * (xw_w P) → xf_V X 2 [some (.ref (xw_a P 2)), some (.int i), some (.int (nI p))] [] (xs_sA σ 5 (xs_rmf p (σ.2 5) i), τ) := by
    intro r
    induction r with
    | zero =>
      intro p hp
      refine xf_iload_n hX 3 rfl 2 xnd_ST_remove_2 rfl rfl ?_
      refine xf_aload_n hX 4 rfl 0 xnd_ST_remove_3 rfl rfl ?_
      refine xg_ST_places hX 7 rfl xk_ST_22 xnd_ST_remove_4 ?_
      refine xaX_alen hX 8 rfl rfl xnd_ST_remove_7 ?_
      change xf_V X 8 _ (.int (nI (8 * xw_w P)) :: _) _
      refine xf_icmp_ge hX 11 rfl 34 xnd_ST_remove_8 (by decide) (fun _ => ?_) (fun h8 => absurd (nI_le (by omega) (by omega)) h8)
      have hN : p = 8 * (xw_w P) := by omega
      subst hN
      exact K
    | succ r ih =>
      intro p hp
      refine xf_iload_n hX 3 rfl 2 xnd_ST_remove_2 rfl rfl ?_
      refine xf_aload_n hX 4 rfl 0 xnd_ST_remove_3 rfl rfl ?_
      refine xg_ST_places hX 7 rfl xk_ST_22 xnd_ST_remove_4 ?_
      refine xaX_alen hX 8 rfl rfl xnd_ST_remove_7 ?_
      change xf_V X 8 _ (.int (nI (8 * xw_w P)) :: _) _
      refine xf_icmp_ge hX 11 rfl 34 xnd_ST_remove_8 (by decide) (fun h8 => absurd h8 (nI_ge (by omega) (by omega))) (fun _ => ?_)
      refine xf_aload_n hX 12 rfl 0 xnd_ST_remove_11 rfl rfl ?_
      refine xg_ST_places hX 15 rfl xk_ST_22 xnd_ST_remove_12 ?_
      refine xf_iload_n hX 16 rfl 2 xnd_ST_remove_15 rfl rfl ?_
      refine xaX_iaload hX 17 rfl rfl (show vp_in _ (8 * xw_w P) from vp_in_nI (by omega) (by omega)) xnd_ST_remove_16 ?_
      rw [nI_clamp (by omega)]
      change xf_V X 17 _ [.int (xs_rmf p (σ.2 5) i p)] _
      rw [xs_rmf_at]
      refine xf_iload_n hX 18 rfl 1 xnd_ST_remove_17 rfl rfl ?_
      refine xf_icmp_ne hX 21 rfl 28 xnd_ST_remove_18 (by decide) (fun h18 => ?_) (fun h18 => ?_)
      · rw [← xs_rmf_s _ _ _ h18]
        refine xf_iinc hX 31 rfl (nI (p + 1)) xnd_ST_remove_28 rfl (by rw [nI_succ]; rfl) (by decide) ?_
        dsimp only [List.set]
        refine xf_goto hX 2 xnd_ST_remove_31 (by decide) ?_
        exact ih (p + 1) (by omega)
      · refine xf_aload_n hX 22 rfl 0 xnd_ST_remove_21 rfl rfl ?_
        refine xg_ST_places hX 25 rfl xk_ST_22 xnd_ST_remove_22 ?_
        refine xf_iload_n hX 26 rfl 2 xnd_ST_remove_25 rfl rfl ?_
        refine xf_iconst hX 27 rfl (-1) xnd_ST_remove_26 (by decide) ?_
        refine xaX_iastore hX 28 rfl rfl (show vp_in _ (8 * xw_w P) from vp_in_nI (by omega) (by omega)) xnd_ST_remove_27 ?_
        rw [nI_clamp (by omega), xs_A_sA, xs_rmf_t _ _ _ h18]
        refine xf_iinc hX 31 rfl (nI (p + 1)) xnd_ST_remove_28 rfl (by rw [nI_succ]; rfl) (by decide) ?_
        dsimp only [List.set]
        refine xf_goto hX 2 xnd_ST_remove_31 (by decide) ?_
        exact ih (p + 1) (by omega)
  refine xf_iconst hX 1 rfl (0) xnd_ST_remove_0 (by decide) ?_
  refine xf_istore_n hX 2 rfl 2 xnd_ST_remove_1 rfl (by decide) ?_
  dsimp only [List.set]
  have V := loop (8 * (xw_w P)) 0 (by omega)
  rw [xs_rmf_0, xs_sA_id] at V
  exact V

set_option maxRecDepth 100000 in
set_option maxHeartbeats 4000000 in
theorem xc_low (P : xw_T) (σ τ : xf_T) (ho : xs_okP (xw_n P) (xw_w P) σ) : xf_F (xw_l P) xny_ST_lowestFree xnc_ST_lowestFree 2 (some .int) 0 0 (xw_W P) (xw_D P) (xw_ty P) [.ref (xw_a P 2)] (σ, τ) (some (.int (nI (xs_low (σ.2 11) ((xw_n P) - 1) 0)))) (σ, τ) := by
  refine xf_start (own := xnR_ST) [some (.ref (xw_a P 2)), none] rfl (by decide) (Nat.le_of_ble_eq_true rfl) rfl (xf_cat rfl) ?_
  intro X hX hE
  have hw := ho.2
  have e1 : nI (xw_n P) - 1 = nI ((xw_n P) - 1) := pk_sub (a := (xw_n P)) (b := 1) (by omega)
  generalize hRR : xs_low (σ.2 11) ((xw_n P) - 1) 0 = RR at hE
  have loop : ∀ r i, r + i = (xw_n P) - 1 → xs_low (σ.2 11) r i = RR → xf_V X 2 [some (.ref (xw_a P 2)), some (.int (nI i))] [] (σ, τ) := by
    intro r
    induction r with
    | zero =>
      intro i hp hR
      refine xf_iload_n hX 3 rfl 1 xnd_ST_lowestFree_2 rfl rfl ?_
      refine xf_aload_n hX 4 rfl 0 xnd_ST_lowestFree_3 rfl rfl ?_
      refine xg_ST_capacity hX 7 rfl xk_ST_15 xnd_ST_lowestFree_4 ?_
      refine xf_iconst hX 8 rfl (1) xnd_ST_lowestFree_7 (by decide) ?_
      refine xf_isub hX 9 rfl xnd_ST_lowestFree_8 ?_
      rw [e1]
      refine xf_icmp_ge hX 12 rfl 27 xnd_ST_lowestFree_9 (by decide) (fun _ => ?_) (fun h9 => absurd (nI_le (by omega) (by omega)) h9)
      refine xf_iload_n hX 28 rfl 1 xnd_ST_lowestFree_27 rfl rfl ?_
      refine xf_iret hX hE xnd_ST_lowestFree_28 ?_
      exact ⟨by rw [← hR]; rfl, rfl⟩
    | succ r ih =>
      intro i hp hR
      refine xf_iload_n hX 3 rfl 1 xnd_ST_lowestFree_2 rfl rfl ?_
      refine xf_aload_n hX 4 rfl 0 xnd_ST_lowestFree_3 rfl rfl ?_
      refine xg_ST_capacity hX 7 rfl xk_ST_15 xnd_ST_lowestFree_4 ?_
      refine xf_iconst hX 8 rfl (1) xnd_ST_lowestFree_7 (by decide) ?_
      refine xf_isub hX 9 rfl xnd_ST_lowestFree_8 ?_
      rw [e1]
      refine xf_icmp_ge hX 12 rfl 27 xnd_ST_lowestFree_9 (by decide) (fun h9 => absurd h9 (nI_ge (by omega) (by omega))) (fun _ => ?_)
      refine xf_aload_n hX 13 rfl 0 xnd_ST_lowestFree_12 rfl rfl ?_
      refine xg_ST_usedFlags hX 16 rfl xk_ST_48 xnd_ST_lowestFree_13 ?_
      refine xf_iload_n hX 17 rfl 1 xnd_ST_lowestFree_16 rfl rfl ?_
      refine xaX_baload hX 18 rfl rfl (show vp_in _ (xw_n P) from vp_in_nI (by omega) (by omega)) xnd_ST_lowestFree_17 ?_
      rw [nI_clamp (by omega)]
      refine xf_if_eq hX 21 rfl 27 xnd_ST_lowestFree_18 (by decide) (fun h18 => ?_) (fun h18 => ?_)
      · refine xf_iload_n hX 28 rfl 1 xnd_ST_lowestFree_27 rfl rfl ?_
        refine xf_iret hX hE xnd_ST_lowestFree_28 ?_
        refine ⟨?_, rfl⟩
        rw [← hR, xs_low]
        simp only [eq_true h18, if_true, if_false]
      · refine xf_iinc hX 24 rfl (nI (i + 1)) xnd_ST_lowestFree_21 rfl (by rw [nI_succ]; rfl) (by decide) ?_
        dsimp only [List.set]
        refine xf_goto hX 2 xnd_ST_lowestFree_24 (by decide) ?_
        refine ih (i + 1) (by omega) ?_
        rw [← hR, xs_low]
        simp only [h18, if_true, if_false]
  refine xf_iconst hX 1 rfl (0) xnd_ST_lowestFree_0 (by decide) ?_
  refine xf_istore_n hX 2 rfl 1 xnd_ST_lowestFree_1 rfl (by decide) ?_
  dsimp only [List.set]
  exact loop ((xw_n P) - 1) 0 (by omega) hRR

set_option maxRecDepth 100000 in
set_option maxHeartbeats 4000000 in
theorem xc_ins (P : xw_T) (σ τ : xf_T) (place key value life : Int32) (ho : xs_okP (xw_n P) (xw_w P) σ) (hp : vp_in place (8 * (xw_w P))) : xf_F (xw_l P) xny_ST_insert xnc_ST_insert 6 none 1 22 (xw_W P) (xw_D P) (xw_ty P) [.ref (xw_a P 2), .int place, .int key, .int value, .int life] (σ, τ) none (xs_ins (xw_n P) σ place key value life, τ) := by
  refine xf_start (own := xnR_ST) [some (.ref (xw_a P 2)), some (.int place), some (.int key), some (.int value), some (.int life), none] rfl (by decide) (Nat.le_of_ble_eq_true rfl) rfl (xf_cat rfl) ?_
  intro X hX hE
  have hw := ho.2
  have hlo := xs_low_le (σ.2 11) ((xw_n P) - 1) 0
  generalize hk : xs_low (σ.2 11) ((xw_n P) - 1) 0 = k at hlo
  have hin : vp_in (nI k) (xw_n P) := vp_in_nI (by omega) (by omega)
  have ek : (nI k).toNatClampNeg = k := nI_clamp (by omega)
  refine xf_aload_n hX 1 rfl 0 xnd_ST_insert_0 rfl rfl ?_
  refine xf_V0i hX 4 rfl (xc_low P _ _ ho) xq_ST_lowestFree xk_ST_92 xrX_ST rfl rfl xnd_ST_insert_1 ?_
  rw [hk]
  refine xf_istore hX 6 rfl xnd_ST_insert_4 (by decide) ?_
  dsimp only [List.set]
  refine xf_aload_n hX 7 rfl 0 xnd_ST_insert_6 rfl rfl ?_
  refine xg_ST_usedFlags hX 10 rfl xk_ST_48 xnd_ST_insert_7 ?_
  refine xf_iload hX 12 rfl xnd_ST_insert_10 rfl ?_
  refine xf_iconst hX 13 rfl (1) xnd_ST_insert_12 (by decide) ?_
  refine xaX_bastore hX 14 rfl rfl hin rfl xnd_ST_insert_13 ?_
  refine xf_aload_n hX 15 rfl 0 xnd_ST_insert_14 rfl rfl ?_
  refine xf_dup hX 16 rfl xnd_ST_insert_15 rfl ?_
  refine xg_ST_usedCount hX 19 rfl xk_ST_54 xnd_ST_insert_16 ?_
  refine xf_iconst hX 20 rfl (1) xnd_ST_insert_19 (by decide) ?_
  refine xf_iadd hX 21 rfl xnd_ST_insert_20 ?_
  refine xp_ST_usedCount hX 24 rfl xk_ST_54 xnd_ST_insert_21 ?_
  refine xf_aload_n hX 25 rfl 0 xnd_ST_insert_24 rfl rfl ?_
  refine xg_ST_keys hX 28 rfl xk_ST_32 xnd_ST_insert_25 ?_
  refine xf_iload hX 30 rfl xnd_ST_insert_28 rfl ?_
  refine xf_iload_n hX 31 rfl 2 xnd_ST_insert_30 rfl rfl ?_
  refine xaX_iastore hX 32 rfl rfl hin xnd_ST_insert_31 ?_
  refine xf_aload_n hX 33 rfl 0 xnd_ST_insert_32 rfl rfl ?_
  refine xg_ST_values hX 36 rfl xk_ST_35 xnd_ST_insert_33 ?_
  refine xf_iload hX 38 rfl xnd_ST_insert_36 rfl ?_
  refine xf_iload_n hX 39 rfl 3 xnd_ST_insert_38 rfl rfl ?_
  refine xaX_iastore hX 40 rfl rfl hin xnd_ST_insert_39 ?_
  refine xf_aload_n hX 41 rfl 0 xnd_ST_insert_40 rfl rfl ?_
  refine xf_iload hX 43 rfl xnd_ST_insert_41 rfl ?_
  refine xf_iload hX 45 rfl xnd_ST_insert_43 rfl ?_
  refine xf_V2v hX 48 rfl (xc_renew P _ _ _ _ hin) xq_ST_renew xk_ST_96 xrX_ST rfl rfl xnd_ST_insert_45 ?_
  refine xf_aload_n hX 49 rfl 0 xnd_ST_insert_48 rfl rfl ?_
  refine xg_ST_bits hX 52 rfl xk_ST_44 xnd_ST_insert_49 ?_
  refine xf_iload hX 54 rfl xnd_ST_insert_52 rfl ?_
  refine xf_iconst hX 55 rfl (0) xnd_ST_insert_54 (by decide) ?_
  refine xaX_bastore hX 56 rfl rfl hin rfl xnd_ST_insert_55 ?_
  refine xf_aload_n hX 57 rfl 0 xnd_ST_insert_56 rfl rfl ?_
  refine xg_ST_places hX 60 rfl xk_ST_22 xnd_ST_insert_57 ?_
  refine xf_iload_n hX 61 rfl 1 xnd_ST_insert_60 rfl rfl ?_
  refine xf_iload hX 63 rfl xnd_ST_insert_61 rfl ?_
  refine xaX_iastore hX 64 rfl rfl hp xnd_ST_insert_63 ?_
  refine xf_vret hX hE xnd_ST_insert_64 ?_
  refine ⟨rfl, ?_⟩
  simp only [xs_ins, xs_ins1, ek, hk]
  rfl
end
section
/-! Contracts of the class: the writer's steps but the search. Laid by wip/gen/class4.py. -/
def xs_uw (σ : xf_T) : Int32 := if σ.1 9 = 0 then 1 else 0
theorem xs_uw_z (σ : xf_T) : narrow .boolean (.int (xs_uw σ)) = .int (xs_uw σ) := by
  unfold xs_uw
  split <;> rfl
set_option maxRecDepth 100000 in
set_option maxHeartbeats 4000000 in
theorem xc_uw (P : xw_T) (σ τ : xf_T) : xf_F (xw_l P) xny_WR_isUnderWay xnc_WR_isUnderWay 1 (some .boolean) 0 0 (xw_W P) (xw_D P) (xw_ty P) [.ref (xw_a P 3)] (σ, τ) (some (.int (xs_uw σ))) (σ, τ) := by
  refine xf_start (own := xnR_WR) [some (.ref (xw_a P 3))] rfl (by decide) (Nat.le_of_ble_eq_true rfl) rfl (xf_cat rfl) ?_
  intro X hX hE
  refine xf_aload_n hX 1 rfl 0 xnd_WR_isUnderWay_0 rfl rfl ?_
  refine xg_WR_outcome hX 4 rfl xk_WR_28 xnd_WR_isUnderWay_1 ?_
  refine xf_if_ne hX 7 rfl 11 xnd_WR_isUnderWay_4 (by decide) (fun h4 => ?_) (fun h4 => ?_)
  · refine xf_iconst hX 12 rfl (0) xnd_WR_isUnderWay_11 (by decide) ?_
    refine xf_zret hX hE xnd_WR_isUnderWay_12 rfl ?_
    refine ⟨?_, rfl⟩
    simp only [xs_uw, h4, if_true, if_false]
  · refine xf_iconst hX 8 rfl (1) xnd_WR_isUnderWay_7 (by decide) ?_
    refine xf_goto hX 12 xnd_WR_isUnderWay_8 (by decide) ?_
    refine xf_zret hX hE xnd_WR_isUnderWay_12 rfl ?_
    refine ⟨?_, rfl⟩
    simp only [xs_uw, eq_true h4, if_true, if_false]

set_option maxRecDepth 100000 in
set_option maxHeartbeats 4000000 in
theorem xc_wbegin (P : xw_T) (σ τ : xf_T) (kind key nv life kt : Int32) : xf_F (xw_l P) xny_WR_begin xnc_WR_begin 6 none 0 0 (xw_W P) (xw_D P) (xw_ty P) [.ref (xw_a P 3), .int kind, .int key, .int nv, .int life, .int kt] (σ, τ) none (xs_begin σ kind key nv life kt, τ) := by
  refine xf_start (own := xnR_WR) [some (.ref (xw_a P 3)), some (.int kind), some (.int key), some (.int nv), some (.int life), some (.int kt)] rfl (by decide) (Nat.le_of_ble_eq_true rfl) rfl (xf_cat rfl) ?_
  intro X hX hE
  refine xf_aload_n hX 1 rfl 0 xnd_WR_begin_0 rfl rfl ?_
  refine xf_iload_n hX 2 rfl 1 xnd_WR_begin_1 rfl rfl ?_
  refine xp_WR_kind hX 5 rfl xk_WR_32 xnd_WR_begin_2 ?_
  refine xf_aload_n hX 6 rfl 0 xnd_WR_begin_5 rfl rfl ?_
  refine xf_iload_n hX 7 rfl 2 xnd_WR_begin_6 rfl rfl ?_
  refine xp_WR_key hX 10 rfl xk_WR_35 xnd_WR_begin_7 ?_
  refine xf_aload_n hX 11 rfl 0 xnd_WR_begin_10 rfl rfl ?_
  refine xf_iload_n hX 12 rfl 3 xnd_WR_begin_11 rfl rfl ?_
  refine xp_WR_newValue hX 15 rfl xk_WR_38 xnd_WR_begin_12 ?_
  refine xf_aload_n hX 16 rfl 0 xnd_WR_begin_15 rfl rfl ?_
  refine xf_iload hX 18 rfl xnd_WR_begin_16 rfl ?_
  refine xp_WR_life hX 21 rfl xk_WR_41 xnd_WR_begin_18 ?_
  refine xf_aload_n hX 22 rfl 0 xnd_WR_begin_21 rfl rfl ?_
  refine xf_iload hX 24 rfl xnd_WR_begin_22 rfl ?_
  refine xp_WR_knownToken hX 27 rfl xk_WR_44 xnd_WR_begin_24 ?_
  refine xf_aload_n hX 28 rfl 0 xnd_WR_begin_27 rfl rfl ?_
  refine xf_iconst hX 29 rfl (0) xnd_WR_begin_28 (by decide) ?_
  refine xp_WR_outcome hX 32 rfl xk_WR_28 xnd_WR_begin_29 ?_
  refine xf_aload_n hX 33 rfl 0 xnd_WR_begin_32 rfl rfl ?_
  refine xf_iconst hX 34 rfl (0) xnd_WR_begin_33 (by decide) ?_
  refine xp_WR_next hX 37 rfl xk_WR_47 xnd_WR_begin_34 ?_
  refine xf_vret hX hE xnd_WR_begin_37 ?_
  exact ⟨rfl, rfl⟩

set_option maxRecDepth 100000 in
set_option maxHeartbeats 4000000 in
theorem xc_whenF (P : xw_T) (σ τ : xf_T) (f : Int32) (ho : xs_okP (xw_n P) (xw_w P) σ) (hf : vp_in f (xw_n P)) : xf_F (xw_l P) xny_WR_chooseWhenFound xnc_WR_chooseWhenFound 2 none 4 84 (xw_W P) (xw_D P) (xw_ty P) [.ref (xw_a P 3), .int f] (σ, τ) none (xs_whenF (xw_w P) σ f, τ) := by
  refine xf_start (own := xnR_WR) [some (.ref (xw_a P 3)), some (.int f)] rfl (by decide) (Nat.le_of_ble_eq_true rfl) rfl (xf_cat rfl) ?_
  intro X hX hE
  refine xf_aload_n hX 1 rfl 0 xnd_WR_chooseWhenFound_0 rfl rfl ?_
  refine xg_WR_kind hX 4 rfl xk_WR_32 xnd_WR_chooseWhenFound_1 ?_
  refine xf_iconst hX 5 rfl (1) xnd_WR_chooseWhenFound_4 (by decide) ?_
  refine xf_icmp_ne hX 8 rfl 16 xnd_WR_chooseWhenFound_5 (by decide) (fun h5 => ?_) (fun h5 => ?_)
  · refine xf_aload_n hX 17 rfl 0 xnd_WR_chooseWhenFound_16 rfl rfl ?_
    refine xg_WR_kind hX 20 rfl xk_WR_32 xnd_WR_chooseWhenFound_17 ?_
    refine xf_iconst hX 21 rfl (4) xnd_WR_chooseWhenFound_20 (by decide) ?_
    refine xf_icmp_ne hX 24 rfl 40 xnd_WR_chooseWhenFound_21 (by decide) (fun h21 => ?_) (fun h21 => ?_)
    · refine xf_aload_n hX 41 rfl 0 xnd_WR_chooseWhenFound_40 rfl rfl ?_
      refine xg_WR_kind hX 44 rfl xk_WR_32 xnd_WR_chooseWhenFound_41 ?_
      refine xf_iconst hX 45 rfl (3) xnd_WR_chooseWhenFound_44 (by decide) ?_
      refine xf_icmp_ne hX 48 rfl 72 xnd_WR_chooseWhenFound_45 (by decide) (fun h45 => ?_) (fun h45 => ?_)
      · refine xf_aload_n hX 73 rfl 0 xnd_WR_chooseWhenFound_72 rfl rfl ?_
        refine xf_iload_n hX 74 rfl 1 xnd_WR_chooseWhenFound_73 rfl rfl ?_
        refine xp_WR_changed hX 77 rfl xk_WR_109 xnd_WR_chooseWhenFound_74 ?_
        refine xf_aload_n hX 78 rfl 0 xnd_WR_chooseWhenFound_77 rfl rfl ?_
        refine xf_iconst hX 79 rfl (1) xnd_WR_chooseWhenFound_78 (by decide) ?_
        refine xp_WR_next hX 82 rfl xk_WR_47 xnd_WR_chooseWhenFound_79 ?_
        refine xf_vret hX hE xnd_WR_chooseWhenFound_82 ?_
        refine ⟨rfl, ?_⟩
        simp only [xs_whenF, h5, h21, h45, if_true, if_false]
      · refine xf_aload_n hX 49 rfl 0 xnd_WR_chooseWhenFound_48 rfl rfl ?_
        refine xg_WR_store hX 52 rfl xk_WR_9 xnd_WR_chooseWhenFound_49 ?_
        refine xg_ST_tokens hX 55 rfl xk_WR_106 xnd_WR_chooseWhenFound_52 ?_
        refine xf_iload_n hX 56 rfl 1 xnd_WR_chooseWhenFound_55 rfl rfl ?_
        refine xaX_iaload hX 57 rfl rfl hf xnd_WR_chooseWhenFound_56 ?_
        refine xf_aload_n hX 58 rfl 0 xnd_WR_chooseWhenFound_57 rfl rfl ?_
        refine xg_WR_knownToken hX 61 rfl xk_WR_44 xnd_WR_chooseWhenFound_58 ?_
        refine xf_icmp_eq hX 64 rfl 72 xnd_WR_chooseWhenFound_61 (by decide) (fun h61 => ?_) (fun h61 => ?_)
        · refine xf_aload_n hX 73 rfl 0 xnd_WR_chooseWhenFound_72 rfl rfl ?_
          refine xf_iload_n hX 74 rfl 1 xnd_WR_chooseWhenFound_73 rfl rfl ?_
          refine xp_WR_changed hX 77 rfl xk_WR_109 xnd_WR_chooseWhenFound_74 ?_
          refine xf_aload_n hX 78 rfl 0 xnd_WR_chooseWhenFound_77 rfl rfl ?_
          refine xf_iconst hX 79 rfl (1) xnd_WR_chooseWhenFound_78 (by decide) ?_
          refine xp_WR_next hX 82 rfl xk_WR_47 xnd_WR_chooseWhenFound_79 ?_
          refine xf_vret hX hE xnd_WR_chooseWhenFound_82 ?_
          refine ⟨rfl, ?_⟩
          simp only [xs_whenF, h5, h21, eq_true h45, eq_true h61, if_true, if_false]
        · refine xf_aload_n hX 65 rfl 0 xnd_WR_chooseWhenFound_64 rfl rfl ?_
          refine xf_iconst hX 66 rfl (3) xnd_WR_chooseWhenFound_65 (by decide) ?_
          refine xp_WR_outcome hX 69 rfl xk_WR_28 xnd_WR_chooseWhenFound_66 ?_
          refine xf_goto hX 82 xnd_WR_chooseWhenFound_69 (by decide) ?_
          refine xf_vret hX hE xnd_WR_chooseWhenFound_82 ?_
          refine ⟨rfl, ?_⟩
          simp only [xs_whenF, h5, h21, eq_true h45, h61, if_true, if_false]
    · refine xf_aload_n hX 25 rfl 0 xnd_WR_chooseWhenFound_24 rfl rfl ?_
      refine xg_WR_store hX 28 rfl xk_WR_9 xnd_WR_chooseWhenFound_25 ?_
      refine xf_iload_n hX 29 rfl 1 xnd_WR_chooseWhenFound_28 rfl rfl ?_
      refine xf_V1v hX 32 rfl (xc_remove P _ _ _ ho hf) xq_ST_remove xk_WR_91 xrX_ST rfl rfl xnd_WR_chooseWhenFound_29 ?_
      refine xf_aload_n hX 33 rfl 0 xnd_WR_chooseWhenFound_32 rfl rfl ?_
      refine xf_iconst hX 34 rfl (5) xnd_WR_chooseWhenFound_33 (by decide) ?_
      refine xp_WR_outcome hX 37 rfl xk_WR_28 xnd_WR_chooseWhenFound_34 ?_
      refine xf_goto hX 82 xnd_WR_chooseWhenFound_37 (by decide) ?_
      refine xf_vret hX hE xnd_WR_chooseWhenFound_82 ?_
      refine ⟨rfl, ?_⟩
      simp only [xs_whenF, h5, eq_true h21, if_true, if_false]
  · refine xf_aload_n hX 9 rfl 0 xnd_WR_chooseWhenFound_8 rfl rfl ?_
    refine xf_iconst hX 10 rfl (2) xnd_WR_chooseWhenFound_9 (by decide) ?_
    refine xp_WR_outcome hX 13 rfl xk_WR_28 xnd_WR_chooseWhenFound_10 ?_
    refine xf_goto hX 82 xnd_WR_chooseWhenFound_13 (by decide) ?_
    refine xf_vret hX hE xnd_WR_chooseWhenFound_82 ?_
    refine ⟨rfl, ?_⟩
    simp only [xs_whenF, eq_true h5, if_true, if_false]

set_option maxRecDepth 100000 in
set_option maxHeartbeats 4000000 in
theorem xc_whenN (P : xw_T) (σ τ : xf_T) : xf_F (xw_l P) xny_WR_chooseWhenNotFound xnc_WR_chooseWhenNotFound 1 none 1 20 (xw_W P) (xw_D P) (xw_ty P) [.ref (xw_a P 3)] (σ, τ) none (xs_whenN (xw_n P) σ, τ) := by
  refine xf_start (own := xnR_WR) [some (.ref (xw_a P 3))] rfl (by decide) (Nat.le_of_ble_eq_true rfl) rfl (xf_cat rfl) ?_
  intro X hX hE
  refine xf_aload_n hX 1 rfl 0 xnd_WR_chooseWhenNotFound_0 rfl rfl ?_
  refine xg_WR_kind hX 4 rfl xk_WR_32 xnd_WR_chooseWhenNotFound_1 ?_
  refine xf_iconst hX 5 rfl (2) xnd_WR_chooseWhenNotFound_4 (by decide) ?_
  refine xf_icmp_ne hX 8 rfl 16 xnd_WR_chooseWhenNotFound_5 (by decide) (fun h5 => ?_) (fun h5 => ?_)
  · refine xf_aload_n hX 17 rfl 0 xnd_WR_chooseWhenNotFound_16 rfl rfl ?_
    refine xg_WR_kind hX 20 rfl xk_WR_32 xnd_WR_chooseWhenNotFound_17 ?_
    refine xf_iconst hX 21 rfl (3) xnd_WR_chooseWhenNotFound_20 (by decide) ?_
    refine xf_icmp_eq hX 24 rfl 32 xnd_WR_chooseWhenNotFound_21 (by decide) (fun h21 => ?_) (fun h21 => ?_)
    · refine xf_aload_n hX 33 rfl 0 xnd_WR_chooseWhenNotFound_32 rfl rfl ?_
      refine xf_iconst hX 34 rfl (4) xnd_WR_chooseWhenNotFound_33 (by decide) ?_
      refine xp_WR_outcome hX 37 rfl xk_WR_28 xnd_WR_chooseWhenNotFound_34 ?_
      refine xf_goto hX 59 xnd_WR_chooseWhenNotFound_37 (by decide) ?_
      refine xf_vret hX hE xnd_WR_chooseWhenNotFound_59 ?_
      refine ⟨rfl, ?_⟩
      simp only [xs_whenN, h5, eq_true h21, if_true, if_false]
    · refine xf_aload_n hX 25 rfl 0 xnd_WR_chooseWhenNotFound_24 rfl rfl ?_
      refine xg_WR_kind hX 28 rfl xk_WR_32 xnd_WR_chooseWhenNotFound_25 ?_
      refine xf_iconst hX 29 rfl (4) xnd_WR_chooseWhenNotFound_28 (by decide) ?_
      refine xf_icmp_ne hX 32 rfl 40 xnd_WR_chooseWhenNotFound_29 (by decide) (fun h29 => ?_) (fun h29 => ?_)
      · refine xf_aload_n hX 41 rfl 0 xnd_WR_chooseWhenNotFound_40 rfl rfl ?_
        refine xf_aload_n hX 42 rfl 0 xnd_WR_chooseWhenNotFound_41 rfl rfl ?_
        refine xg_WR_store hX 45 rfl xk_WR_9 xnd_WR_chooseWhenNotFound_42 ?_
        refine xf_V0i hX 48 rfl (xc_isFull P _ _) xq_ST_isFull xk_WR_112 xrX_ST rfl rfl xnd_WR_chooseWhenNotFound_45 ?_
        refine xf_if_eq hX 51 rfl 55 xnd_WR_chooseWhenNotFound_48 (by decide) (fun h48 => ?_) (fun h48 => ?_)
        · refine xf_iconst hX 56 rfl (4) xnd_WR_chooseWhenNotFound_55 (by decide) ?_
          refine xp_WR_next hX 59 rfl xk_WR_47 xnd_WR_chooseWhenNotFound_56 ?_
          refine xf_vret hX hE xnd_WR_chooseWhenNotFound_59 ?_
          refine ⟨rfl, ?_⟩
          simp only [xs_whenN, h5, h21, h29, eq_true h48, if_true, if_false]
        · refine xf_iconst hX 52 rfl (3) xnd_WR_chooseWhenNotFound_51 (by decide) ?_
          refine xf_goto hX 56 xnd_WR_chooseWhenNotFound_52 (by decide) ?_
          refine xp_WR_next hX 59 rfl xk_WR_47 xnd_WR_chooseWhenNotFound_56 ?_
          refine xf_vret hX hE xnd_WR_chooseWhenNotFound_59 ?_
          refine ⟨rfl, ?_⟩
          simp only [xs_whenN, h5, h21, h29, h48, if_true, if_false]
      · refine xf_aload_n hX 33 rfl 0 xnd_WR_chooseWhenNotFound_32 rfl rfl ?_
        refine xf_iconst hX 34 rfl (4) xnd_WR_chooseWhenNotFound_33 (by decide) ?_
        refine xp_WR_outcome hX 37 rfl xk_WR_28 xnd_WR_chooseWhenNotFound_34 ?_
        refine xf_goto hX 59 xnd_WR_chooseWhenNotFound_37 (by decide) ?_
        refine xf_vret hX hE xnd_WR_chooseWhenNotFound_59 ?_
        refine ⟨rfl, ?_⟩
        simp only [xs_whenN, h5, h21, eq_true h29, if_true, if_false]
  · refine xf_aload_n hX 9 rfl 0 xnd_WR_chooseWhenNotFound_8 rfl rfl ?_
    refine xf_iconst hX 10 rfl (2) xnd_WR_chooseWhenNotFound_9 (by decide) ?_
    refine xp_WR_outcome hX 13 rfl xk_WR_28 xnd_WR_chooseWhenNotFound_10 ?_
    refine xf_goto hX 59 xnd_WR_chooseWhenNotFound_13 (by decide) ?_
    refine xf_vret hX hE xnd_WR_chooseWhenNotFound_59 ?_
    refine ⟨rfl, ?_⟩
    simp only [xs_whenN, eq_true h5, if_true, if_false]

set_option maxRecDepth 100000 in
set_option maxHeartbeats 4000000 in
theorem xc_chV (P : xw_T) (σ τ : xf_T) (hc : vp_in (σ.1 17) (xw_n P)) : xf_F (xw_l P) xny_WR_changeValue xnc_WR_changeValue 1 none 3 62 (xw_W P) (xw_D P) (xw_ty P) [.ref (xw_a P 3)] (σ, τ) none (xs_chV σ, τ) := by
  refine xf_start (own := xnR_WR) [some (.ref (xw_a P 3))] rfl (by decide) (Nat.le_of_ble_eq_true rfl) rfl (xf_cat rfl) ?_
  intro X hX hE
  refine xf_aload_n hX 1 rfl 0 xnd_WR_changeValue_0 rfl rfl ?_
  refine xg_WR_store hX 4 rfl xk_WR_9 xnd_WR_changeValue_1 ?_
  refine xf_aload_n hX 5 rfl 0 xnd_WR_changeValue_4 rfl rfl ?_
  refine xg_WR_key hX 8 rfl xk_WR_35 xnd_WR_changeValue_5 ?_
  refine xf_iconst hX 9 rfl (1) xnd_WR_changeValue_8 (by decide) ?_
  refine xf_V2v hX 12 rfl (xc_grow P _ _ _ _) xq_ST_growVersion xk_WR_116 xrX_ST rfl rfl xnd_WR_changeValue_9 ?_
  refine xf_aload_n hX 13 rfl 0 xnd_WR_changeValue_12 rfl rfl ?_
  refine xg_WR_store hX 16 rfl xk_WR_9 xnd_WR_changeValue_13 ?_
  refine xg_ST_values hX 19 rfl xk_WR_120 xnd_WR_changeValue_16 ?_
  refine xf_aload_n hX 20 rfl 0 xnd_WR_changeValue_19 rfl rfl ?_
  refine xg_WR_changed hX 23 rfl xk_WR_109 xnd_WR_changeValue_20 ?_
  refine xf_aload_n hX 24 rfl 0 xnd_WR_changeValue_23 rfl rfl ?_
  refine xg_WR_newValue hX 27 rfl xk_WR_38 xnd_WR_changeValue_24 ?_
  refine xaX_iastore hX 28 rfl rfl hc xnd_WR_changeValue_27 ?_
  refine xf_aload_n hX 29 rfl 0 xnd_WR_changeValue_28 rfl rfl ?_
  refine xf_iconst hX 30 rfl (2) xnd_WR_changeValue_29 (by decide) ?_
  refine xp_WR_next hX 33 rfl xk_WR_47 xnd_WR_changeValue_30 ?_
  refine xf_vret hX hE xnd_WR_changeValue_33 ?_
  exact ⟨rfl, rfl⟩

set_option maxRecDepth 100000 in
set_option maxHeartbeats 4000000 in
theorem xc_chT (P : xw_T) (σ τ : xf_T) (hc : vp_in (σ.1 17) (xw_n P)) : xf_F (xw_l P) xny_WR_changeToken xnc_WR_changeToken 1 none 3 62 (xw_W P) (xw_D P) (xw_ty P) [.ref (xw_a P 3)] (σ, τ) none (xs_chT σ, τ) := by
  refine xf_start (own := xnR_WR) [some (.ref (xw_a P 3))] rfl (by decide) (Nat.le_of_ble_eq_true rfl) rfl (xf_cat rfl) ?_
  intro X hX hE
  refine xf_aload_n hX 1 rfl 0 xnd_WR_changeToken_0 rfl rfl ?_
  refine xg_WR_store hX 4 rfl xk_WR_9 xnd_WR_changeToken_1 ?_
  refine xf_aload_n hX 5 rfl 0 xnd_WR_changeToken_4 rfl rfl ?_
  refine xg_WR_changed hX 8 rfl xk_WR_109 xnd_WR_changeToken_5 ?_
  refine xf_aload_n hX 9 rfl 0 xnd_WR_changeToken_8 rfl rfl ?_
  refine xg_WR_life hX 12 rfl xk_WR_41 xnd_WR_changeToken_9 ?_
  refine xf_V2v hX 15 rfl (xc_renew P _ _ _ _ hc) xq_ST_renew xk_WR_123 xrX_ST rfl rfl xnd_WR_changeToken_12 ?_
  refine xf_aload_n hX 16 rfl 0 xnd_WR_changeToken_15 rfl rfl ?_
  refine xg_WR_store hX 19 rfl xk_WR_9 xnd_WR_changeToken_16 ?_
  refine xf_aload_n hX 20 rfl 0 xnd_WR_changeToken_19 rfl rfl ?_
  refine xg_WR_key hX 23 rfl xk_WR_35 xnd_WR_changeToken_20 ?_
  refine xf_iconst hX 24 rfl (1) xnd_WR_changeToken_23 (by decide) ?_
  refine xf_V2v hX 27 rfl (xc_grow P _ _ _ _) xq_ST_growVersion xk_WR_116 xrX_ST rfl rfl xnd_WR_changeToken_24 ?_
  refine xf_aload_n hX 28 rfl 0 xnd_WR_changeToken_27 rfl rfl ?_
  refine xf_iconst hX 29 rfl (1) xnd_WR_changeToken_28 (by decide) ?_
  refine xp_WR_outcome hX 32 rfl xk_WR_28 xnd_WR_changeToken_29 ?_
  refine xf_vret hX hE xnd_WR_changeToken_32 ?_
  exact ⟨rfl, rfl⟩

set_option maxRecDepth 100000 in
set_option maxHeartbeats 4000000 in
theorem xc_turn (P : xw_T) (σ τ : xf_T) : xf_F (xw_l P) xny_WR_turnHand xnc_WR_turnHand 1 none 0 0 (xw_W P) (xw_D P) (xw_ty P) [.ref (xw_a P 3)] (σ, τ) none (xs_turn (xw_n P) σ, τ) := by
  refine xf_start (own := xnR_WR) [some (.ref (xw_a P 3))] rfl (by decide) (Nat.le_of_ble_eq_true rfl) rfl (xf_cat rfl) ?_
  intro X hX hE
  refine xf_aload_n hX 1 rfl 0 xnd_WR_turnHand_0 rfl rfl ?_
  refine xf_aload_n hX 2 rfl 0 xnd_WR_turnHand_1 rfl rfl ?_
  refine xg_WR_hand hX 5 rfl xk_WR_133 xnd_WR_turnHand_2 ?_
  refine xf_iconst hX 6 rfl (1) xnd_WR_turnHand_5 (by decide) ?_
  refine xf_iadd hX 7 rfl xnd_WR_turnHand_6 ?_
  refine xf_aload_n hX 8 rfl 0 xnd_WR_turnHand_7 rfl rfl ?_
  refine xg_WR_store hX 11 rfl xk_WR_9 xnd_WR_turnHand_8 ?_
  refine xg_ST_capacity hX 14 rfl xk_WR_126 xnd_WR_turnHand_11 ?_
  refine xf_icmp_ge hX 17 rfl 26 xnd_WR_turnHand_14 (by decide) (fun h14 => ?_) (fun h14 => ?_)
  · refine xf_iconst hX 27 rfl (0) xnd_WR_turnHand_26 (by decide) ?_
    refine xp_WR_hand hX 30 rfl xk_WR_133 xnd_WR_turnHand_27 ?_
    refine xf_vret hX hE xnd_WR_turnHand_30 ?_
    refine ⟨rfl, ?_⟩
    simp only [xs_turn, h14, if_true, if_false]
  · refine xf_aload_n hX 18 rfl 0 xnd_WR_turnHand_17 rfl rfl ?_
    refine xg_WR_hand hX 21 rfl xk_WR_133 xnd_WR_turnHand_18 ?_
    refine xf_iconst hX 22 rfl (1) xnd_WR_turnHand_21 (by decide) ?_
    refine xf_iadd hX 23 rfl xnd_WR_turnHand_22 ?_
    refine xf_goto hX 27 xnd_WR_turnHand_23 (by decide) ?_
    refine xp_WR_hand hX 30 rfl xk_WR_133 xnd_WR_turnHand_27 ?_
    refine xf_vret hX hE xnd_WR_turnHand_30 ?_
    refine ⟨rfl, ?_⟩
    simp only [xs_turn, h14, if_true, if_false]

set_option maxRecDepth 100000 in
set_option maxHeartbeats 4000000 in
theorem xc_chM (P : xw_T) (σ τ : xf_T) : xf_F (xw_l P) xny_WR_chooseMove xnc_WR_chooseMove 1 none 0 0 (xw_W P) (xw_D P) (xw_ty P) [.ref (xw_a P 3)] (σ, τ) none (xs_chM σ, τ) := by
  refine xf_start (own := xnR_WR) [some (.ref (xw_a P 3))] rfl (by decide) (Nat.le_of_ble_eq_true rfl) rfl (xf_cat rfl) ?_
  intro X hX hE
  refine xf_aload_n hX 1 rfl 0 xnd_WR_chooseMove_0 rfl rfl ?_
  refine xf_dup hX 2 rfl xnd_WR_chooseMove_1 rfl ?_
  refine xg_WR_moving hX 5 rfl xk_WR_148 xnd_WR_chooseMove_2 ?_
  refine xf_iconst hX 6 rfl (1) xnd_WR_chooseMove_5 (by decide) ?_
  refine xf_isub hX 7 rfl xnd_WR_chooseMove_6 ?_
  refine xp_WR_moving hX 10 rfl xk_WR_148 xnd_WR_chooseMove_7 ?_
  refine xf_aload_n hX 11 rfl 0 xnd_WR_chooseMove_10 rfl rfl ?_
  refine xf_aload_n hX 12 rfl 0 xnd_WR_chooseMove_11 rfl rfl ?_
  refine xg_WR_moving hX 15 rfl xk_WR_148 xnd_WR_chooseMove_12 ?_
  refine xf_if_lt hX 18 rfl 22 xnd_WR_chooseMove_15 (by decide) (fun h15 => ?_) (fun h15 => ?_)
  · refine xf_bipush hX 24 rfl (7) xnd_WR_chooseMove_22 (by decide) ?_
    refine xp_WR_next hX 27 rfl xk_WR_47 xnd_WR_chooseMove_24 ?_
    refine xf_vret hX hE xnd_WR_chooseMove_27 ?_
    refine ⟨rfl, ?_⟩
    have h9 : (xf_I σ 18 (σ.1 18 - 1)).1 18 = σ.1 18 - 1 := rfl
    rw [h9] at h15
    simp only [xs_chM, h15, if_true, if_false]
  · refine xf_iconst hX 19 rfl (5) xnd_WR_chooseMove_18 (by decide) ?_
    refine xf_goto hX 24 xnd_WR_chooseMove_19 (by decide) ?_
    refine xp_WR_next hX 27 rfl xk_WR_47 xnd_WR_chooseMove_24 ?_
    refine xf_vret hX hE xnd_WR_chooseMove_27 ?_
    refine ⟨rfl, ?_⟩
    have h9 : (xf_I σ 18 (σ.1 18 - 1)).1 18 = σ.1 18 - 1 := rfl
    rw [h9] at h15
    simp only [xs_chM, h15, if_true, if_false]

set_option maxRecDepth 100000 in
set_option maxHeartbeats 4000000 in
theorem xc_insK (P : xw_T) (σ τ : xf_T) (ho : xs_okP (xw_n P) (xw_w P) σ) (hp : vp_in (σ.2 14 0) (8 * (xw_w P))) : xf_F (xw_l P) xny_WR_insertKey xnc_WR_insertKey 1 none 2 47 (xw_W P) (xw_D P) (xw_ty P) [.ref (xw_a P 3)] (σ, τ) none (xs_insK (xw_n P) σ, τ) := by
  refine xf_start (own := xnR_WR) [some (.ref (xw_a P 3))] rfl (by decide) (Nat.le_of_ble_eq_true rfl) rfl (xf_cat rfl) ?_
  intro X hX hE
  refine xf_aload_n hX 1 rfl 0 xnd_WR_insertKey_0 rfl rfl ?_
  refine xg_WR_store hX 4 rfl xk_WR_9 xnd_WR_insertKey_1 ?_
  refine xf_aload_n hX 5 rfl 0 xnd_WR_insertKey_4 rfl rfl ?_
  refine xg_WR_path hX 8 rfl xk_WR_24 xnd_WR_insertKey_5 ?_
  refine xg_PA_stops hX 11 rfl xk_WR_154 xnd_WR_insertKey_8 ?_
  refine xf_iconst hX 12 rfl (0) xnd_WR_insertKey_11 (by decide) ?_
  refine xaX_iaload hX 13 rfl rfl (show vp_in _ 5 from vp_in_nI (n := 0) (by omega) (by omega)) xnd_WR_insertKey_12 ?_
  change xf_V X 13 _ (.int (σ.2 14 0) :: _) _
  refine xf_aload_n hX 14 rfl 0 xnd_WR_insertKey_13 rfl rfl ?_
  refine xg_WR_key hX 17 rfl xk_WR_35 xnd_WR_insertKey_14 ?_
  refine xf_aload_n hX 18 rfl 0 xnd_WR_insertKey_17 rfl rfl ?_
  refine xg_WR_newValue hX 21 rfl xk_WR_38 xnd_WR_insertKey_18 ?_
  refine xf_aload_n hX 22 rfl 0 xnd_WR_insertKey_21 rfl rfl ?_
  refine xg_WR_life hX 25 rfl xk_WR_41 xnd_WR_insertKey_22 ?_
  refine xf_V4v hX 28 rfl (xc_ins P _ _ _ _ _ _ ho hp) xq_ST_insert xk_WR_163 xrX_ST rfl rfl xnd_WR_insertKey_25 ?_
  refine xf_aload_n hX 29 rfl 0 xnd_WR_insertKey_28 rfl rfl ?_
  refine xf_iconst hX 30 rfl (1) xnd_WR_insertKey_29 (by decide) ?_
  refine xp_WR_outcome hX 33 rfl xk_WR_28 xnd_WR_insertKey_30 ?_
  refine xf_vret hX hE xnd_WR_insertKey_33 ?_
  exact ⟨rfl, rfl⟩
end
section
/-! Contracts of the class: looking the key up, evicting, moving. Laid by wip/gen/class5.py. -/
theorem xs_lk_2 (w : Nat) (σ : xf_T) (key : Int32) : (xs_lk w σ key).2 = σ.2 := by
  unfold xs_lk
  split <;> rfl
theorem xs_lk_1 (w : Nat) (σ : xf_T) (key : Int32) {k : Nat} (hk : k ≠ 4) : (xs_lk w σ key).1 k = σ.1 k := by
  unfold xs_lk xs_lkIn
  split
  · rw [xs_I1, if_neg hk, xs_I1, if_neg hk]
  · rw [xs_I1, if_neg hk]
theorem xs_over_lk (w : Nat) (σ : xf_T) (key e : Int32) : xs_over (xs_lk w σ key) e = xs_over σ e := by
  unfold xs_over
  rw [xs_lk_1 w σ key (by decide)]
theorem xs_okP.cg {n w : Nat} {σ σ' : xf_T} (h : xs_okP n w σ) (e : σ'.2 5 = σ.2 5) : xs_okP n w σ' := by
  unfold xs_okP
  rw [e]
  exact h
theorem xs_okP.find {n w : Nat} {σ : xf_T} (h : xs_okP n w σ) (key : Int32) : xs_find w σ key = -1 ∨ ∃ q, q < 8 * w ∧ xs_find w σ key = nI q ∧ ¬ σ.2 5 q = -1 := by
  have key' : ∀ b, (∃ j, j < 8 ∧ b = nI j) → xs_findIn w σ b key = -1 ∨ ∃ q, q < 8 * w ∧ xs_findIn w σ b key = nI q ∧ ¬ σ.2 5 q = -1 := by
    rintro b ⟨j, hj, rfl⟩
    have h8 := xr_bkb (w := w) hj
    unfold xs_findIn
    rw [nI_clamp (by omega)]
    rcases xs_fi_is (σ.2 5) (σ.2 6) key w (w * j) with g | ⟨q, g1, g2, g3, g4, -⟩
    · exact Or.inl g
    · exact Or.inr ⟨q, by omega, g3, g4⟩
  unfold xs_find
  split
  · exact key' _ (xs_b2_is key)
  · exact key' _ (xs_b1_is key)
theorem xs_okP.fnd {n w : Nat} {σ : xf_T} (h : xs_okP n w σ) (key : Int32) : xs_fnd w σ key = -1 ∨ vp_in (xs_fnd w σ key) n := by
  have hw := h.2
  unfold xs_fnd
  rcases h.find key with g | ⟨q, g1, g2, g3⟩
  · rw [if_pos g]; exact Or.inl rfl
  · rw [g2, if_neg (xb_nIm1 (by omega)), nI_clamp (by omega)]
    exact Or.inr (h.in g1 g3)
/-- the hand is a number of an item -/
def xs_okH (n : Nat) (σ : xf_T) : Prop := ∃ h, h < n ∧ σ.1 10 = nI h
theorem xs_okH.in {n : Nat} {σ : xf_T} (h : xs_okH n σ) (hn : n ≤ 32) : vp_in (σ.1 10) n := by
  obtain ⟨k, k1, k2⟩ := h
  exact xs_in k2 k1 (by omega)
theorem xs_okH.turn {n : Nat} {σ : xf_T} (h : xs_okH n σ) (h1 : 1 ≤ n) (hn : n ≤ 32) : xs_okH n (xs_turn n σ) := by
  obtain ⟨k, k1, k2⟩ := h
  unfold xs_okH xs_turn
  rw [xs_I1, if_pos rfl, k2, nI_1]
  by_cases hc : nI n ≤ nI (k + 1)
  · rw [if_pos hc]; exact ⟨0, by omega, rfl⟩
  · rw [if_neg hc]
    rw [nI_leI (by omega) (by omega)] at hc
    exact ⟨k + 1, by omega, rfl⟩
set_option maxRecDepth 100000 in
set_option maxHeartbeats 4000000 in
theorem xc_luk (P : xw_T) (σ τ : xf_T) (ho : xs_okP (xw_n P) (xw_w P) σ) : xf_F (xw_l P) xny_WR_lookUpKey xnc_WR_lookUpKey 3 none 5 105 (xw_W P) (xw_D P) (xw_ty P) [.ref (xw_a P 3)] (σ, τ) none (xs_luk (xw_n P) (xw_w P) σ, τ) := by
  refine xf_start (own := xnR_WR) [some (.ref (xw_a P 3)), none, none] rfl (by decide) (Nat.le_of_ble_eq_true rfl) rfl (xf_cat rfl) ?_
  intro X hX hE
  have hw := ho.2
  have hs2 := xs_lk_2 (xw_w P) σ (σ.1 12)
  have hov := xs_over_lk (xw_w P) σ (σ.1 12)
  have hol : xs_okP (xw_n P) (xw_w P) (xs_lk (xw_w P) σ (σ.1 12)) := ho.cg (by rw [hs2])
  have hfv := ho.fnd (σ.1 12)
  have hfd := ho.find (σ.1 12)
  have hu : xs_luk (xw_n P) (xw_w P) σ = if xs_fnd (xw_w P) σ (σ.1 12) = -1 then xs_whenN (xw_n P) (xs_lk (xw_w P) σ (σ.1 12)) else if xs_over σ (σ.2 9 (xs_fnd (xw_w P) σ (σ.1 12)).toNatClampNeg) = 0 then xs_whenF (xw_w P) (xs_lk (xw_w P) σ (σ.1 12)) (xs_fnd (xw_w P) σ (σ.1 12)) else xs_whenN (xw_n P) (xf_I (xs_remove (xw_w P) (xs_lk (xw_w P) σ (σ.1 12)) (xs_fnd (xw_w P) σ (σ.1 12))) 5 ((xs_remove (xw_w P) (xs_lk (xw_w P) σ (σ.1 12)) (xs_fnd (xw_w P) σ (σ.1 12))).1 5 + 1)) := rfl
  have hfe : (if xs_find (xw_w P) σ (σ.1 12) = -1 then -1 else σ.2 5 (xs_find (xw_w P) σ (σ.1 12)).toNatClampNeg) = xs_fnd (xw_w P) σ (σ.1 12) := rfl
  generalize hs : xs_lk (xw_w P) σ (σ.1 12) = σ' at hs2 hov hol hu
  generalize hF : xs_find (xw_w P) σ (σ.1 12) = F at hfd hfe
  generalize xs_fnd (xw_w P) σ (σ.1 12) = f0 at hu hfv hfe
  generalize hFin : xs_luk (xw_n P) (xw_w P) σ = FIN at hE hu
  have hFin := hFin
  have hFi : ¬ F = -1 → vp_in F (8 * (xw_w P)) := by
    intro h9
    rcases hfd with g | ⟨q, g1, g2, -⟩
    · exact absurd g h9
    · exact xs_in g2 g1 (by omega)
  have K1 : ∀ s, xs_whenN (xw_n P) s = FIN → xf_V X 78 [some (.ref (xw_a P 3)), some (.int F), some (.int (-1))] [] (s, τ) := by
    intro s hs9
    refine xf_iload_n hX 79 rfl 2 xnd_WR_lookUpKey_78 rfl rfl ?_
    refine xf_iconst hX 80 rfl (-1) xnd_WR_lookUpKey_79 (by decide) ?_
    refine xf_icmp_eq hX 83 rfl 91 xnd_WR_lookUpKey_80 (by decide) (fun _ => ?_) (fun h80 => absurd rfl h80)
    refine xf_aload_n hX 92 rfl 0 xnd_WR_lookUpKey_91 rfl rfl ?_
    refine xf_V0v hX 95 rfl (xc_whenN P _ _) xq_WR_chooseWhenNotFound xk_WR_103 xrX_WR rfl rfl xnd_WR_lookUpKey_92 ?_
    refine xf_vret hX hE xnd_WR_lookUpKey_95 ?_
    exact ⟨rfl, by rw [hs9]⟩
  have K2 : ∀ {f}, ¬ f = -1 → vp_in f (xw_n P) → xs_whenF (xw_w P) σ' f = FIN → xf_V X 78 [some (.ref (xw_a P 3)), some (.int F), some (.int f)] [] (σ', τ) := by
    intro f hne hf9 hs9
    refine xf_iload_n hX 79 rfl 2 xnd_WR_lookUpKey_78 rfl rfl ?_
    refine xf_iconst hX 80 rfl (-1) xnd_WR_lookUpKey_79 (by decide) ?_
    refine xf_icmp_eq hX 83 rfl 91 xnd_WR_lookUpKey_80 (by decide) (fun h80 => absurd h80 hne) (fun _ => ?_)
    refine xf_aload_n hX 84 rfl 0 xnd_WR_lookUpKey_83 rfl rfl ?_
    refine xf_iload_n hX 85 rfl 2 xnd_WR_lookUpKey_84 rfl rfl ?_
    refine xf_V1v hX 88 rfl (xc_whenF P _ _ _ hol hf9) xq_WR_chooseWhenFound xk_WR_100 xrX_WR rfl rfl xnd_WR_lookUpKey_85 ?_
    refine xf_goto hX 95 xnd_WR_lookUpKey_88 (by decide) ?_
    refine xf_vret hX hE xnd_WR_lookUpKey_95 ?_
    exact ⟨rfl, by rw [hs9]⟩
  have K : ∀ f, f = f0 → xf_V X 30 [some (.ref (xw_a P 3)), some (.int F), none] [.int f] (σ', τ) := by
    intro f hf0
    subst hf0
    refine xf_istore_n hX 31 rfl 2 xnd_WR_lookUpKey_30 rfl (by decide) ?_
    dsimp only [List.set]
    refine xf_iload_n hX 32 rfl 2 xnd_WR_lookUpKey_31 rfl rfl ?_
    refine xf_iconst hX 33 rfl (-1) xnd_WR_lookUpKey_32 (by decide) ?_
    refine xf_icmp_eq hX 36 rfl 78 xnd_WR_lookUpKey_33 (by decide) (fun h33 => ?_) (fun h33 => ?_)
    · subst h33
      exact K1 σ' (by rw [hu, if_pos rfl])
    · refine xf_aload_n hX 37 rfl 0 xnd_WR_lookUpKey_36 rfl rfl ?_
      refine xg_WR_store hX 40 rfl xk_WR_9 xnd_WR_lookUpKey_37 ?_
      refine xf_aload_n hX 41 rfl 0 xnd_WR_lookUpKey_40 rfl rfl ?_
      refine xg_WR_store hX 44 rfl xk_WR_9 xnd_WR_lookUpKey_41 ?_
      refine xg_ST_expiries hX 47 rfl xk_WR_84 xnd_WR_lookUpKey_44 ?_
      refine xf_iload_n hX 48 rfl 2 xnd_WR_lookUpKey_47 rfl rfl ?_
      refine xaX_iaload hX 49 rfl rfl (hfv.resolve_left h33) xnd_WR_lookUpKey_48 ?_
      rw [hs2]
      refine xf_V1i hX 52 rfl (xc_isOver P _ _ _) xq_ST_isOver xk_WR_87 xrX_ST rfl rfl xnd_WR_lookUpKey_49 ?_
      rw [hov]
      refine xf_if_eq hX 55 rfl 78 xnd_WR_lookUpKey_52 (by decide) (fun h52 => ?_) (fun h52 => ?_)
      · exact K2 h33 (hfv.resolve_left h33) (by rw [hu, if_neg h33, if_pos h52])
      · refine xf_aload_n hX 56 rfl 0 xnd_WR_lookUpKey_55 rfl rfl ?_
        refine xg_WR_store hX 59 rfl xk_WR_9 xnd_WR_lookUpKey_56 ?_
        refine xf_iload_n hX 60 rfl 2 xnd_WR_lookUpKey_59 rfl rfl ?_
        refine xf_V1v hX 63 rfl (xc_remove P _ _ _ hol (hfv.resolve_left h33)) xq_ST_remove xk_WR_91 xrX_ST rfl rfl xnd_WR_lookUpKey_60 ?_
        refine xf_aload_n hX 64 rfl 0 xnd_WR_lookUpKey_63 rfl rfl ?_
        refine xg_WR_tally hX 67 rfl xk_WR_15 xnd_WR_lookUpKey_64 ?_
        refine xf_dup hX 68 rfl xnd_WR_lookUpKey_67 rfl ?_
        refine xg_TA_expiredRemoved hX 71 rfl xk_WR_95 xnd_WR_lookUpKey_68 ?_
        refine xf_iconst hX 72 rfl (1) xnd_WR_lookUpKey_71 (by decide) ?_
        refine xf_iadd hX 73 rfl xnd_WR_lookUpKey_72 ?_
        refine xp_TA_expiredRemoved hX 76 rfl xk_WR_95 xnd_WR_lookUpKey_73 ?_
        refine xf_iconst hX 77 rfl (-1) xnd_WR_lookUpKey_76 (by decide) ?_
        refine xf_istore_n hX 78 rfl 2 xnd_WR_lookUpKey_77 rfl (by decide) ?_
        dsimp only [List.set]
        exact K1 _ (by rw [hu, if_neg h33, if_neg h52])
  refine xf_aload_n hX 1 rfl 0 xnd_WR_lookUpKey_0 rfl rfl ?_
  refine xg_WR_store hX 4 rfl xk_WR_9 xnd_WR_lookUpKey_1 ?_
  refine xf_aload_n hX 5 rfl 0 xnd_WR_lookUpKey_4 rfl rfl ?_
  refine xg_WR_key hX 8 rfl xk_WR_35 xnd_WR_lookUpKey_5 ?_
  refine xf_V1i hX 11 rfl (xc_lk P _ _ _ ho) xq_ST_lookUp xk_WR_74 xrX_ST rfl rfl xnd_WR_lookUpKey_8 ?_
  rw [hs, hF]
  refine xf_istore_n hX 12 rfl 1 xnd_WR_lookUpKey_11 rfl (by decide) ?_
  dsimp only [List.set]
  refine xf_iload_n hX 13 rfl 1 xnd_WR_lookUpKey_12 rfl rfl ?_
  refine xf_iconst hX 14 rfl (-1) xnd_WR_lookUpKey_13 (by decide) ?_
  refine xf_icmp_eq hX 17 rfl 29 xnd_WR_lookUpKey_14 (by decide) (fun h14 => ?_) (fun h14 => ?_)
  · refine xf_iconst hX 30 rfl (-1) xnd_WR_lookUpKey_29 (by decide) ?_
    exact K _ (by rw [← hfe, if_pos h14])
  · refine xf_aload_n hX 18 rfl 0 xnd_WR_lookUpKey_17 rfl rfl ?_
    refine xg_WR_store hX 21 rfl xk_WR_9 xnd_WR_lookUpKey_18 ?_
    refine xg_ST_places hX 24 rfl xk_WR_80 xnd_WR_lookUpKey_21 ?_
    refine xf_iload_n hX 25 rfl 1 xnd_WR_lookUpKey_24 rfl rfl ?_
    refine xaX_iaload hX 26 rfl rfl (hFi h14) xnd_WR_lookUpKey_25 ?_
    rw [hs2]
    refine xf_goto hX 30 xnd_WR_lookUpKey_26 (by decide) ?_
    exact K _ (by rw [← hfe, if_neg h14])

theorem xs_okP.evl {n w : Nat} : ∀ (r : Nat) (σ : xf_T), xs_okP n w σ → xs_okP n w (xs_evl n r σ)
  | 0, σ, h => h
  | r + 1, σ, h => by
    rw [xs_evl]
    split
    · exact h
    · exact xs_okP.evl r _ h
theorem xs_okH.evl {n : Nat} (h1 : 1 ≤ n) (h32 : n ≤ 32) : ∀ (r : Nat) (σ : xf_T), xs_okH n σ → xs_okH n (xs_evl n r σ)
  | 0, σ, h => h
  | r + 1, σ, h => by
    rw [xs_evl]
    split
    · exact h
    · exact xs_okH.evl h1 h32 r _ (xs_okH.turn (σ := xf_A σ 10 (σ.1 10).toNatClampNeg 0) h h1 h32)
set_option maxRecDepth 100000 in
set_option maxHeartbeats 4000000 in
theorem xc_evict (P : xw_T) (σ τ : xf_T) (ho : xs_okP (xw_n P) (xw_w P) σ) (hh : xs_okH (xw_n P) σ) : xf_F (xw_l P) xny_WR_evict xnc_WR_evict 2 none 4 84 (xw_W P) (xw_D P) (xw_ty P) [.ref (xw_a P 3)] (σ, τ) none (xs_evict (xw_n P) (xw_w P) σ, τ) := by
  refine xf_start (own := xnR_WR) [some (.ref (xw_a P 3)), none] rfl (by decide) (Nat.le_of_ble_eq_true rfl) rfl (xf_cat rfl) ?_
  intro X hX hE
  have hw := ho.2
  have hFin : xf_I (xf_I (xs_ev1 (xw_n P) (xw_w P) σ) 0 ((xs_ev1 (xw_n P) (xw_w P) σ).1 0 + 1)) 16 4 = xs_evict (xw_n P) (xw_w P) σ := rfl
  rw [← hFin] at hE
  have hEv : xs_ev1 (xw_n P) (xw_w P) σ = xs_turn (xw_n P) (xs_remove (xw_w P) (xs_evl (xw_n P) (xw_n P) σ) ((xs_evl (xw_n P) (xw_n P) σ).1 10)) := rfl
  rw [hEv] at hE hFin
  have hoE : xs_okP (xw_n P) (xw_w P) (xs_evl (xw_n P) (xw_n P) σ) := xs_okP.evl _ _ ho
  have hhE : xs_okH (xw_n P) (xs_evl (xw_n P) (xw_n P) σ) := xs_okH.evl (by omega) (by omega) _ _ hh
  generalize hE1 : xs_evl (xw_n P) (xw_n P) σ = E1 at hE hFin hoE hhE
  have K : ∀ x, xf_V X 51 [some (.ref (xw_a P 3)), x] [] (E1, τ) := by
    intro x
    refine xf_aload_n hX 52 rfl 0 xnd_WR_evict_51 rfl rfl ?_
    refine xg_WR_store hX 55 rfl xk_WR_9 xnd_WR_evict_52 ?_
    refine xf_aload_n hX 56 rfl 0 xnd_WR_evict_55 rfl rfl ?_
    refine xg_WR_hand hX 59 rfl xk_WR_133 xnd_WR_evict_56 ?_
    refine xf_V1v hX 62 rfl (xc_remove P _ _ _ hoE (hhE.in (by omega))) xq_ST_remove xk_WR_91 xrX_ST rfl rfl xnd_WR_evict_59 ?_
    refine xf_aload_n hX 63 rfl 0 xnd_WR_evict_62 rfl rfl ?_
    refine xf_V0v hX 66 rfl (xc_turn P _ _) xq_WR_turnHand xk_WR_136 xrX_WR rfl rfl xnd_WR_evict_63 ?_
    refine xf_aload_n hX 67 rfl 0 xnd_WR_evict_66 rfl rfl ?_
    refine xg_WR_tally hX 70 rfl xk_WR_15 xnd_WR_evict_67 ?_
    refine xf_dup hX 71 rfl xnd_WR_evict_70 rfl ?_
    refine xg_TA_evictions hX 74 rfl xk_WR_139 xnd_WR_evict_71 ?_
    refine xf_iconst hX 75 rfl (1) xnd_WR_evict_74 (by decide) ?_
    refine xf_iadd hX 76 rfl xnd_WR_evict_75 ?_
    refine xp_TA_evictions hX 79 rfl xk_WR_139 xnd_WR_evict_76 ?_
    refine xf_aload_n hX 80 rfl 0 xnd_WR_evict_79 rfl rfl ?_
    refine xf_iconst hX 81 rfl (4) xnd_WR_evict_80 (by decide) ?_
    refine xp_WR_next hX 84 rfl xk_WR_47 xnd_WR_evict_81 ?_
    refine xf_vret hX hE xnd_WR_evict_84 ?_
    exact ⟨rfl, rfl⟩
  have loop : ∀ r k s, r + k = (xw_n P) → xs_okP (xw_n P) (xw_w P) s → xs_okH (xw_n P) s → xs_evl (xw_n P) r s = E1 → xf_V X 2 [some (.ref (xw_a P 3)), some (.int (nI k))] [] (s, τ) := by
    intro r
    induction r with
    | zero =>
      intro k s hk hos hhs hR
      refine xf_iload_n hX 3 rfl 1 xnd_WR_evict_2 rfl rfl ?_
      refine xf_aload_n hX 4 rfl 0 xnd_WR_evict_3 rfl rfl ?_
      refine xg_WR_store hX 7 rfl xk_WR_9 xnd_WR_evict_4 ?_
      refine xg_ST_capacity hX 10 rfl xk_WR_126 xnd_WR_evict_7 ?_
      refine xf_icmp_ge hX 13 rfl 51 xnd_WR_evict_10 (by decide) (fun _ => ?_) (fun h10 => absurd (nI_le (by omega) (by omega)) h10)
      rw [show s = E1 from hR]
      exact K _
    | succ r ih =>
      intro k s hk hos hhs hR
      refine xf_iload_n hX 3 rfl 1 xnd_WR_evict_2 rfl rfl ?_
      refine xf_aload_n hX 4 rfl 0 xnd_WR_evict_3 rfl rfl ?_
      refine xg_WR_store hX 7 rfl xk_WR_9 xnd_WR_evict_4 ?_
      refine xg_ST_capacity hX 10 rfl xk_WR_126 xnd_WR_evict_7 ?_
      refine xf_icmp_ge hX 13 rfl 51 xnd_WR_evict_10 (by decide) (fun h10 => absurd h10 (nI_ge (by omega) (by omega))) (fun _ => ?_)
      refine xf_aload_n hX 14 rfl 0 xnd_WR_evict_13 rfl rfl ?_
      refine xg_WR_store hX 17 rfl xk_WR_9 xnd_WR_evict_14 ?_
      refine xg_ST_bits hX 20 rfl xk_WR_129 xnd_WR_evict_17 ?_
      refine xf_aload_n hX 21 rfl 0 xnd_WR_evict_20 rfl rfl ?_
      refine xg_WR_hand hX 24 rfl xk_WR_133 xnd_WR_evict_21 ?_
      refine xaX_baload hX 25 rfl rfl (hhs.in (by omega)) xnd_WR_evict_24 ?_
      refine xf_if_eq hX 28 rfl 51 xnd_WR_evict_25 (by decide) (fun h25 => ?_) (fun h25 => ?_)
      · rw [xs_evl, if_pos h25] at hR
        rw [hR]
        exact K _
      · refine xf_aload_n hX 29 rfl 0 xnd_WR_evict_28 rfl rfl ?_
        refine xg_WR_store hX 32 rfl xk_WR_9 xnd_WR_evict_29 ?_
        refine xg_ST_bits hX 35 rfl xk_WR_129 xnd_WR_evict_32 ?_
        refine xf_aload_n hX 36 rfl 0 xnd_WR_evict_35 rfl rfl ?_
        refine xg_WR_hand hX 39 rfl xk_WR_133 xnd_WR_evict_36 ?_
        refine xf_iconst hX 40 rfl (0) xnd_WR_evict_39 (by decide) ?_
        refine xaX_bastore hX 41 rfl rfl (hhs.in (by omega)) rfl xnd_WR_evict_40 ?_
        refine xf_aload_n hX 42 rfl 0 xnd_WR_evict_41 rfl rfl ?_
        refine xf_V0v hX 45 rfl (xc_turn P _ _) xq_WR_turnHand xk_WR_136 xrX_WR rfl rfl xnd_WR_evict_42 ?_
        refine xf_iinc hX 48 rfl (nI (k + 1)) xnd_WR_evict_45 rfl (by rw [nI_succ]; rfl) (by decide) ?_
        dsimp only [List.set]
        refine xf_goto hX 2 xnd_WR_evict_48 (by decide) ?_
        rw [xs_evl, if_neg h25] at hR
        exact ih (k + 1) _ (by omega) hos (xs_okH.turn hhs (by omega) (by omega)) hR
  refine xf_iconst hX 1 rfl (0) xnd_WR_evict_0 (by decide) ?_
  refine xf_istore_n hX 2 rfl 1 xnd_WR_evict_1 rfl (by decide) ?_
  dsimp only [List.set]
  exact loop (xw_n P) 0 σ (by omega) ho hh hE1

set_option maxRecDepth 100000 in
set_option maxHeartbeats 4000000 in
theorem xc_mvOn (P : xw_T) (σ τ : xf_T) (h1 : vp_in (σ.1 18) 5) (h2 : vp_in (σ.1 18 + 1) 5) (h3 : vp_in (σ.2 14 (σ.1 18).toNatClampNeg) (8 * (xw_w P))) (h4 : vp_in (σ.2 14 (σ.1 18 + 1).toNatClampNeg) (8 * (xw_w P))) (h5 : vp_in (xs_mi σ) (xw_n P)) : xf_F (xw_l P) xny_WR_moveOn xnc_WR_moveOn 2 none 3 62 (xw_W P) (xw_D P) (xw_ty P) [.ref (xw_a P 3)] (σ, τ) none (xs_mvOn σ, τ) := by
  refine xf_start (own := xnR_WR) [some (.ref (xw_a P 3)), none] rfl (by decide) (Nat.le_of_ble_eq_true rfl) rfl (xf_cat rfl) ?_
  intro X hX hE
  refine xf_aload_n hX 1 rfl 0 xnd_WR_moveOn_0 rfl rfl ?_
  refine xg_WR_store hX 4 rfl xk_WR_9 xnd_WR_moveOn_1 ?_
  refine xg_ST_places hX 7 rfl xk_WR_80 xnd_WR_moveOn_4 ?_
  refine xf_aload_n hX 8 rfl 0 xnd_WR_moveOn_7 rfl rfl ?_
  refine xg_WR_path hX 11 rfl xk_WR_24 xnd_WR_moveOn_8 ?_
  refine xg_PA_stops hX 14 rfl xk_WR_154 xnd_WR_moveOn_11 ?_
  refine xf_aload_n hX 15 rfl 0 xnd_WR_moveOn_14 rfl rfl ?_
  refine xg_WR_moving hX 18 rfl xk_WR_148 xnd_WR_moveOn_15 ?_
  refine xaX_iaload hX 19 rfl rfl h1 xnd_WR_moveOn_18 ?_
  refine xaX_iaload hX 20 rfl rfl h3 xnd_WR_moveOn_19 ?_
  refine xf_istore_n hX 21 rfl 1 xnd_WR_moveOn_20 rfl (by decide) ?_
  dsimp only [List.set]
  refine xf_aload_n hX 22 rfl 0 xnd_WR_moveOn_21 rfl rfl ?_
  refine xg_WR_store hX 25 rfl xk_WR_9 xnd_WR_moveOn_22 ?_
  refine xf_aload_n hX 26 rfl 0 xnd_WR_moveOn_25 rfl rfl ?_
  refine xg_WR_store hX 29 rfl xk_WR_9 xnd_WR_moveOn_26 ?_
  refine xg_ST_keys hX 32 rfl xk_WR_157 xnd_WR_moveOn_29 ?_
  refine xf_iload_n hX 33 rfl 1 xnd_WR_moveOn_32 rfl rfl ?_
  refine xaX_iaload hX 34 rfl rfl h5 xnd_WR_moveOn_33 ?_
  refine xf_iconst hX 35 rfl (1) xnd_WR_moveOn_34 (by decide) ?_
  refine xf_V2v hX 38 rfl (xc_grow P _ _ _ _) xq_ST_growVersion xk_WR_116 xrX_ST rfl rfl xnd_WR_moveOn_35 ?_
  refine xf_aload_n hX 39 rfl 0 xnd_WR_moveOn_38 rfl rfl ?_
  refine xg_WR_store hX 42 rfl xk_WR_9 xnd_WR_moveOn_39 ?_
  refine xg_ST_places hX 45 rfl xk_WR_80 xnd_WR_moveOn_42 ?_
  refine xf_aload_n hX 46 rfl 0 xnd_WR_moveOn_45 rfl rfl ?_
  refine xg_WR_path hX 49 rfl xk_WR_24 xnd_WR_moveOn_46 ?_
  refine xg_PA_stops hX 52 rfl xk_WR_154 xnd_WR_moveOn_49 ?_
  refine xf_aload_n hX 53 rfl 0 xnd_WR_moveOn_52 rfl rfl ?_
  refine xg_WR_moving hX 56 rfl xk_WR_148 xnd_WR_moveOn_53 ?_
  refine xf_iconst hX 57 rfl (1) xnd_WR_moveOn_56 (by decide) ?_
  refine xf_iadd hX 58 rfl xnd_WR_moveOn_57 ?_
  refine xaX_iaload hX 59 rfl rfl h2 xnd_WR_moveOn_58 ?_
  refine xf_iload_n hX 60 rfl 1 xnd_WR_moveOn_59 rfl rfl ?_
  refine xaX_iastore hX 61 rfl rfl h4 xnd_WR_moveOn_60 ?_
  refine xf_aload_n hX 62 rfl 0 xnd_WR_moveOn_61 rfl rfl ?_
  refine xf_bipush hX 64 rfl (6) xnd_WR_moveOn_62 (by decide) ?_
  refine xp_WR_next hX 67 rfl xk_WR_47 xnd_WR_moveOn_64 ?_
  refine xf_vret hX hE xnd_WR_moveOn_67 ?_
  exact ⟨rfl, rfl⟩

set_option maxRecDepth 100000 in
set_option maxHeartbeats 4000000 in
theorem xc_mvOff (P : xw_T) (σ τ : xf_T) (h1 : vp_in (σ.1 18) 5) (h3 : vp_in (σ.2 14 (σ.1 18).toNatClampNeg) (8 * (xw_w P))) (h5 : vp_in (xs_mi σ) (xw_n P)) : xf_F (xw_l P) xny_WR_moveOff xnc_WR_moveOff 2 none 3 62 (xw_W P) (xw_D P) (xw_ty P) [.ref (xw_a P 3)] (σ, τ) none (xs_mvOff σ, τ) := by
  refine xf_start (own := xnR_WR) [some (.ref (xw_a P 3)), none] rfl (by decide) (Nat.le_of_ble_eq_true rfl) rfl (xf_cat rfl) ?_
  intro X hX hE
  refine xf_aload_n hX 1 rfl 0 xnd_WR_moveOff_0 rfl rfl ?_
  refine xg_WR_store hX 4 rfl xk_WR_9 xnd_WR_moveOff_1 ?_
  refine xg_ST_places hX 7 rfl xk_WR_80 xnd_WR_moveOff_4 ?_
  refine xf_aload_n hX 8 rfl 0 xnd_WR_moveOff_7 rfl rfl ?_
  refine xg_WR_path hX 11 rfl xk_WR_24 xnd_WR_moveOff_8 ?_
  refine xg_PA_stops hX 14 rfl xk_WR_154 xnd_WR_moveOff_11 ?_
  refine xf_aload_n hX 15 rfl 0 xnd_WR_moveOff_14 rfl rfl ?_
  refine xg_WR_moving hX 18 rfl xk_WR_148 xnd_WR_moveOff_15 ?_
  refine xaX_iaload hX 19 rfl rfl h1 xnd_WR_moveOff_18 ?_
  refine xaX_iaload hX 20 rfl rfl h3 xnd_WR_moveOff_19 ?_
  refine xf_istore_n hX 21 rfl 1 xnd_WR_moveOff_20 rfl (by decide) ?_
  dsimp only [List.set]
  refine xf_aload_n hX 22 rfl 0 xnd_WR_moveOff_21 rfl rfl ?_
  refine xg_WR_store hX 25 rfl xk_WR_9 xnd_WR_moveOff_22 ?_
  refine xg_ST_places hX 28 rfl xk_WR_80 xnd_WR_moveOff_25 ?_
  refine xf_aload_n hX 29 rfl 0 xnd_WR_moveOff_28 rfl rfl ?_
  refine xg_WR_path hX 32 rfl xk_WR_24 xnd_WR_moveOff_29 ?_
  refine xg_PA_stops hX 35 rfl xk_WR_154 xnd_WR_moveOff_32 ?_
  refine xf_aload_n hX 36 rfl 0 xnd_WR_moveOff_35 rfl rfl ?_
  refine xg_WR_moving hX 39 rfl xk_WR_148 xnd_WR_moveOff_36 ?_
  refine xaX_iaload hX 40 rfl rfl h1 xnd_WR_moveOff_39 ?_
  refine xf_iconst hX 41 rfl (-1) xnd_WR_moveOff_40 (by decide) ?_
  refine xaX_iastore hX 42 rfl rfl h3 xnd_WR_moveOff_41 ?_
  refine xf_aload_n hX 43 rfl 0 xnd_WR_moveOff_42 rfl rfl ?_
  refine xg_WR_store hX 46 rfl xk_WR_9 xnd_WR_moveOff_43 ?_
  refine xf_aload_n hX 47 rfl 0 xnd_WR_moveOff_46 rfl rfl ?_
  refine xg_WR_store hX 50 rfl xk_WR_9 xnd_WR_moveOff_47 ?_
  refine xg_ST_keys hX 53 rfl xk_WR_157 xnd_WR_moveOff_50 ?_
  refine xf_iload_n hX 54 rfl 1 xnd_WR_moveOff_53 rfl rfl ?_
  refine xaX_iaload hX 55 rfl rfl h5 xnd_WR_moveOff_54 ?_
  refine xf_iconst hX 56 rfl (1) xnd_WR_moveOff_55 (by decide) ?_
  refine xf_V2v hX 59 rfl (xc_grow P _ _ _ _) xq_ST_growVersion xk_WR_116 xrX_ST rfl rfl xnd_WR_moveOff_56 ?_
  refine xf_aload_n hX 60 rfl 0 xnd_WR_moveOff_59 rfl rfl ?_
  refine xg_WR_tally hX 63 rfl xk_WR_15 xnd_WR_moveOff_60 ?_
  refine xf_dup hX 64 rfl xnd_WR_moveOff_63 rfl ?_
  refine xg_TA_moves hX 67 rfl xk_WR_160 xnd_WR_moveOff_64 ?_
  refine xf_iconst hX 68 rfl (1) xnd_WR_moveOff_67 (by decide) ?_
  refine xf_iadd hX 69 rfl xnd_WR_moveOff_68 ?_
  refine xp_TA_moves hX 72 rfl xk_WR_160 xnd_WR_moveOff_69 ?_
  refine xf_aload_n hX 73 rfl 0 xnd_WR_moveOff_72 rfl rfl ?_
  refine xf_V0v hX 76 rfl (xc_chM P _ _) xq_WR_chooseMove xk_WR_151 xrX_WR rfl rfl xnd_WR_moveOff_73 ?_
  refine xf_vret hX hE xnd_WR_moveOff_76 ?_
  exact ⟨rfl, rfl⟩
end
section
/-! Contracts of the class: the search for a path. Laid by wip/gen/class6.py. -/
theorem xs_pack_id (σ : xf_T) (m : Nat) (h : σ.1 20 = nI m) : xs_pack σ (σ.2 15, σ.2 16, σ.2 17, m) = σ := by
  unfold xs_pack
  dsimp only
  rw [← h]
  refine xs_ext (fun k => ?_) (fun j i => ?_)
  · rw [xs_I1]
    split
    · next e => rw [e]
    · rfl
  · simp only [xs_I2, xs_sA2]
    split
    · next e => rw [e]
    · split
      · next e => rw [e]
      · split
        · next e => rw [e]
        · rfl
theorem xs_pack_0 (σ : xf_T) (D : Nat → Int32) : xs_sA (xf_I σ 20 0) 17 D = xs_pack σ (σ.2 15, σ.2 16, D, 0) := by
  unfold xs_pack
  dsimp only
  refine xs_ext (fun k => rfl) (fun j i => ?_)
  simp only [xs_I2, xs_sA2]
  split
  · rfl
  · split
    · next e => rw [e]
    · split
      · next e => rw [e]
      · rfl
theorem xs_pack_pack (σ : xf_T) (a b : (Nat → Int32) × (Nat → Int32) × (Nat → Int32) × Nat) : xs_pack (xs_pack σ a) b = xs_pack σ b := by
  unfold xs_pack
  refine xs_ext (fun k => ?_) (fun j i => ?_)
  · simp only [xs_I1, xs_sA1]
    split <;> rfl
  · simp only [xs_I2, xs_sA2]
    split
    · rfl
    · split
      · rfl
      · split <;> rfl
theorem xs_pack_add (σ : xf_T) (Q Bf Dp : Nat → Int32) (m p : Nat) (fr dp : Int32) : xf_I (xf_A (xf_A (xf_A (xs_pack σ (Q, Bf, Dp, m)) 17 p dp) 16 p fr) 15 m (nI p)) 20 (nI (m + 1)) = xs_pack σ (upd Q m (nI p), upd Bf p fr, upd Dp p dp, m + 1) := by
  unfold xs_pack
  dsimp only
  refine xs_ext (fun k => ?_) (fun j i => ?_)
  · simp only [xs_I1, xs_A1, xs_sA1]
    split <;> rfl
  · simp only [xs_I2, xs_A2, xs_sA2]
    by_cases h15 : j = 15
    · subst h15
      simp
    · by_cases h16 : j = 16
      · subst h16
        simp
      · by_cases h17 : j = 17
        · subst h17
          simp
        · simp [h15, h16, h17]
theorem xb_enter_cnt {fr dp : Int32} (hd : dp ≠ -1) {N : Nat} : ∀ (r p : Nat) (a : (Nat → Int32) × (Nat → Int32) × (Nat → Int32) × Nat), p + r ≤ N → xb_cnt a.2.2.1 N = a.2.2.2 → xb_cnt (xb_enter fr dp r p a).2.2.1 N = (xb_enter fr dp r p a).2.2.2
  | 0, p, a, _, h => h
  | r + 1, p, a, hp, h => by
    rw [xb_enter]
    by_cases hc : a.2.2.1 p = -1
    · rw [if_pos hc]
      refine xb_enter_cnt hd r (p + 1) _ (by omega) ?_
      dsimp only
      rw [xb_cnt_set hd (by omega) hc, h]
    · rw [if_neg hc]
      exact xb_enter_cnt hd r (p + 1) _ (by omega) h
/-- the way back from a place: k places that can be read -/
def xs_chain (N : Nat) (Bf : Nat → Int32) : Nat → Int32 → Prop
  | 0, _ => True
  | k + 1, p => vp_in p N ∧ xs_chain N Bf k (Bf p.toNatClampNeg)
theorem xs_fill_s (N : Nat) (f : Nat → Int32) (v : Int32) (k : Nat) : upd (xs_fill N f v k) k v = xs_fill N f v (k + 1) := by
  funext p
  unfold xs_fill
  by_cases h : p = k
  · subst h
    rw [pk_us, if_pos (by omega)]
  · rw [pk_un h]
    by_cases h2 : p < k
    · rw [if_pos h2, if_pos (by omega)]
    · rw [if_neg h2, if_neg (by omega)]
set_option maxRecDepth 100000 in
set_option maxHeartbeats 4000000 in
theorem xc_fill (P : xw_T) (σ τ : xf_T) (v : Int32) (hw : 1 ≤ (xw_w P) ∧ (xw_w P) ≤ 4) : xf_F (xw_l P) xny_AR_fill xnc_AR_fill 4 none 0 0 (xw_W P) (xw_D P) (xw_ty P) [.ref (xw_a P 17), .int v] (σ, τ) none (xs_sA σ 17 (xs_fill (8 * (xw_w P)) (σ.2 17) v (8 * (xw_w P))), τ) := by
  refine xf_start (own := xnR_AR) [some (.ref (xw_a P 17)), some (.int v), none, none] rfl (by decide) (Nat.le_of_ble_eq_true rfl) rfl (xf_cat rfl) ?_
  intro X hX hE
  have loop : ∀ r k, r + k = 8 * (xw_w P) → xf_V X 5 [some (.ref (xw_a P 17)), some (.int v), some (.int (nI k)), some (.int (nI (8 * xw_w P)))] [] (xs_sA σ 17 (xs_fill (8 * (xw_w P)) (σ.2 17) v k), τ) := by
    intro r
    induction r with
    | zero =>
      intro k hk
      refine xf_iload_n hX 6 rfl 2 xnd_AR_fill_5 rfl rfl ?_
      refine xf_iload_n hX 7 rfl 3 xnd_AR_fill_6 rfl rfl ?_
      refine xf_icmp_ge hX 10 rfl 20 xnd_AR_fill_7 (by decide) (fun _ => ?_) (fun h7 => absurd (nI_le (by omega) (by omega)) h7)
      refine xf_vret hX hE xnd_AR_fill_20 ?_
      have e9 : k = 8 * (xw_w P) := by omega
      subst e9
      exact ⟨rfl, rfl⟩
    | succ r ih =>
      intro k hk
      refine xf_iload_n hX 6 rfl 2 xnd_AR_fill_5 rfl rfl ?_
      refine xf_iload_n hX 7 rfl 3 xnd_AR_fill_6 rfl rfl ?_
      refine xf_icmp_ge hX 10 rfl 20 xnd_AR_fill_7 (by decide) (fun h7 => absurd h7 (nI_ge (by omega) (by omega))) (fun _ => ?_)
      refine xf_aload_n hX 11 rfl 0 xnd_AR_fill_10 rfl rfl ?_
      refine xf_iload_n hX 12 rfl 2 xnd_AR_fill_11 rfl rfl ?_
      refine xf_iload_n hX 13 rfl 1 xnd_AR_fill_12 rfl rfl ?_
      refine xaX_iastore hX 14 rfl rfl (show vp_in _ (8 * xw_w P) from vp_in_nI (by omega) (by omega)) xnd_AR_fill_13 ?_
      rw [nI_clamp (by omega), xs_A_sA, xs_fill_s]
      refine xf_iinc hX 17 rfl (nI (k + 1)) xnd_AR_fill_14 rfl (by rw [nI_succ]; rfl) (by decide) ?_
      dsimp only [List.set]
      refine xf_goto hX 5 xnd_AR_fill_17 (by decide) ?_
      exact ih (k + 1) (by omega)
  refine xf_iconst hX 1 rfl (0) xnd_AR_fill_0 (by decide) ?_
  refine xf_istore_n hX 2 rfl 2 xnd_AR_fill_1 rfl (by decide) ?_
  dsimp only [List.set]
  refine xf_aload_n hX 3 rfl 0 xnd_AR_fill_2 rfl rfl ?_
  refine xaX_alen hX 4 rfl rfl xnd_AR_fill_3 ?_
  change xf_V X 4 _ [.int (nI (8 * xw_w P))] _
  refine xf_istore_n hX 5 rfl 3 xnd_AR_fill_4 rfl (by decide) ?_
  dsimp only [List.set]
  have V := loop (8 * (xw_w P)) 0 (by omega)
  have e0 : xs_fill (8 * (xw_w P)) (σ.2 17) v 0 = σ.2 17 := by funext p; unfold xs_fill; rw [if_neg (by omega)]
  rw [e0, xs_sA_id] at V
  exact V

set_option maxRecDepth 100000 in
set_option maxHeartbeats 4000000 in
theorem xc_enter (P : xw_T) (σ τ : xf_T) (b fr dp : Int32) (m0 : Nat) (hw : 1 ≤ (xw_w P) ∧ (xw_w P) ≤ 4) (hb : ∃ j, j < 8 ∧ b = nI j) (hd : dp ≠ -1) (hm0 : xb_cnt (σ.2 17) (8 * (xw_w P)) = m0) (hq0 : σ.1 20 = nI m0) : xf_F (xw_l P) xny_PA_enter xnc_PA_enter 6 none 0 0 (xw_W P) (xw_D P) (xw_ty P) [.ref (xw_a P 13), .int b, .int fr, .int dp] (σ, τ) none (xs_pack σ (xb_enter fr dp (xw_w P) ((xw_w P) * b.toNatClampNeg) (σ.2 15, σ.2 16, σ.2 17, m0)), τ) := by
  refine xf_start (own := xnR_PA) [some (.ref (xw_a P 13)), some (.int b), some (.int fr), some (.int dp), none, none] rfl (by decide) (Nat.le_of_ble_eq_true rfl) rfl (xf_cat rfl) ?_
  intro X hX hE
  obtain ⟨j, hj, rfl⟩ := hb
  have h8 := xr_bkb (w := (xw_w P)) hj
  have e1 : nI (xw_w P) * (nI j + 1) = nI ((xw_w P) * j + (xw_w P)) := by rw [nI_1, pk_mul, Nat.mul_succ]
  have e2 : nI (xw_w P) * nI j = nI ((xw_w P) * j) := pk_mul _ _
  rw [nI_clamp (by omega : j < 2 ^ 31)] at hE
  generalize hRR : xb_enter fr dp (xw_w P) ((xw_w P) * j) (σ.2 15, σ.2 16, σ.2 17, m0) = RR at hE
  have loop : ∀ r p Q Bf Dp m, r + p = (xw_w P) * j + (xw_w P) → (xw_w P) * j ≤ p → xb_cnt Dp (8 * (xw_w P)) = m → xb_enter fr dp r p (Q, Bf, Dp, m) = RR → xf_V X 24 [some (.ref (xw_a P 13)), some (.int (nI j)), some (.int fr), some (.int dp), some (.int (nI ((xw_w P) * j + (xw_w P)))), some (.int (nI p))] [] (xs_pack σ (Q, Bf, Dp, m), τ) := by
    intro r
    induction r with
    | zero =>
      intro p Q Bf Dp m hp hp2 hm hR
      have hmle := xb_cnt_le Dp (8 * (xw_w P))
      refine xf_iload hX 26 rfl xnd_PA_enter_24 rfl ?_
      refine xf_iload hX 28 rfl xnd_PA_enter_26 rfl ?_
      refine xf_icmp_ge hX 31 rfl 85 xnd_PA_enter_28 (by decide) (fun _ => ?_) (fun h28 => absurd (nI_le (by omega) (by omega)) h28)
      refine xf_vret hX hE xnd_PA_enter_85 ?_
      exact ⟨rfl, by rw [← hR]; rfl⟩
    | succ r ih =>
      intro p Q Bf Dp m hp hp2 hm hR
      have hmle := xb_cnt_le Dp (8 * (xw_w P))
      refine xf_iload hX 26 rfl xnd_PA_enter_24 rfl ?_
      refine xf_iload hX 28 rfl xnd_PA_enter_26 rfl ?_
      refine xf_icmp_ge hX 31 rfl 85 xnd_PA_enter_28 (by decide) (fun h28 => absurd h28 (nI_ge (by omega) (by omega))) (fun _ => ?_)
      refine xf_aload_n hX 32 rfl 0 xnd_PA_enter_31 rfl rfl ?_
      refine xg_PA_depths hX 35 rfl xk_PA_30 xnd_PA_enter_32 ?_
      refine xf_iload hX 37 rfl xnd_PA_enter_35 rfl ?_
      refine xaX_iaload hX 38 rfl rfl (show vp_in _ (8 * xw_w P) from vp_in_nI (by omega) (by omega)) xnd_PA_enter_37 ?_
      rw [nI_clamp (by omega)]
      change xf_V X 38 _ [.int (Dp p)] _
      refine xf_iconst hX 39 rfl (-1) xnd_PA_enter_38 (by decide) ?_
      refine xf_icmp_ne hX 42 rfl 79 xnd_PA_enter_39 (by decide) (fun h39 => ?_) (fun h39 => ?_)
      · refine xf_iinc hX 82 rfl (nI (p + 1)) xnd_PA_enter_79 rfl (by rw [nI_succ]; rfl) (by decide) ?_
        dsimp only [List.set]
        refine xf_goto hX 24 xnd_PA_enter_82 (by decide) ?_
        refine ih (p + 1) Q Bf Dp m (by omega) (by omega) hm ?_
        rw [← hR, xb_enter]
        dsimp only
        rw [if_neg h39]
      · have hm8 : m < 8 * (xw_w P) := by have := xb_cnt_lt (n := 8 * (xw_w P)) (p := p) (by omega) h39; omega
        refine xf_aload_n hX 43 rfl 0 xnd_PA_enter_42 rfl rfl ?_
        refine xg_PA_depths hX 46 rfl xk_PA_30 xnd_PA_enter_43 ?_
        refine xf_iload hX 48 rfl xnd_PA_enter_46 rfl ?_
        refine xf_iload_n hX 49 rfl 3 xnd_PA_enter_48 rfl rfl ?_
        refine xaX_iastore hX 50 rfl rfl (show vp_in _ (8 * xw_w P) from vp_in_nI (by omega) (by omega)) xnd_PA_enter_49 ?_
        rw [nI_clamp (by omega)]
        refine xf_aload_n hX 51 rfl 0 xnd_PA_enter_50 rfl rfl ?_
        refine xg_PA_before hX 54 rfl xk_PA_27 xnd_PA_enter_51 ?_
        refine xf_iload hX 56 rfl xnd_PA_enter_54 rfl ?_
        refine xf_iload_n hX 57 rfl 2 xnd_PA_enter_56 rfl rfl ?_
        refine xaX_iastore hX 58 rfl rfl (show vp_in _ (8 * xw_w P) from vp_in_nI (by omega) (by omega)) xnd_PA_enter_57 ?_
        rw [nI_clamp (by omega)]
        refine xf_aload_n hX 59 rfl 0 xnd_PA_enter_58 rfl rfl ?_
        refine xg_PA_queue hX 62 rfl xk_PA_24 xnd_PA_enter_59 ?_
        refine xf_aload_n hX 63 rfl 0 xnd_PA_enter_62 rfl rfl ?_
        refine xg_PA_queued hX 66 rfl xk_PA_33 xnd_PA_enter_63 ?_
        change xf_V X 66 _ [.int (nI m), _] _
        refine xf_iload hX 68 rfl xnd_PA_enter_66 rfl ?_
        refine xaX_iastore hX 69 rfl rfl (show vp_in _ (8 * xw_w P) from vp_in_nI hm8 (by omega)) xnd_PA_enter_68 ?_
        rw [nI_clamp (by omega)]
        refine xf_aload_n hX 70 rfl 0 xnd_PA_enter_69 rfl rfl ?_
        refine xf_dup hX 71 rfl xnd_PA_enter_70 rfl ?_
        refine xg_PA_queued hX 74 rfl xk_PA_33 xnd_PA_enter_71 ?_
        change xf_V X 74 _ [.int (nI m), _] _
        refine xf_iconst hX 75 rfl (1) xnd_PA_enter_74 (by decide) ?_
        refine xf_iadd hX 76 rfl xnd_PA_enter_75 ?_
        rw [nI_1]
        refine xp_PA_queued hX 79 rfl xk_PA_33 xnd_PA_enter_76 ?_
        rw [xs_pack_add]
        refine xf_iinc hX 82 rfl (nI (p + 1)) xnd_PA_enter_79 rfl (by rw [nI_succ]; rfl) (by decide) ?_
        dsimp only [List.set]
        refine xf_goto hX 24 xnd_PA_enter_82 (by decide) ?_
        refine ih (p + 1) _ _ _ _ (by omega) (by omega) (by rw [xb_cnt_set hd (by omega) h39, hm]) ?_
        rw [← hR, xb_enter]
        dsimp only
        rw [if_pos h39]
  refine xf_aload_n hX 1 rfl 0 xnd_PA_enter_0 rfl rfl ?_
  refine xg_PA_store hX 4 rfl xk_PA_9 xnd_PA_enter_1 ?_
  refine xg_ST_ways hX 7 rfl xk_PA_58 xnd_PA_enter_4 ?_
  refine xf_iload_n hX 8 rfl 1 xnd_PA_enter_7 rfl rfl ?_
  refine xf_iconst hX 9 rfl (1) xnd_PA_enter_8 (by decide) ?_
  refine xf_iadd hX 10 rfl xnd_PA_enter_9 ?_
  refine xf_imul hX 11 rfl xnd_PA_enter_10 ?_
  refine xf_istore hX 13 rfl xnd_PA_enter_11 (by decide) ?_
  dsimp only [List.set]
  refine xf_aload_n hX 14 rfl 0 xnd_PA_enter_13 rfl rfl ?_
  refine xg_PA_store hX 17 rfl xk_PA_9 xnd_PA_enter_14 ?_
  refine xg_ST_ways hX 20 rfl xk_PA_58 xnd_PA_enter_17 ?_
  refine xf_iload_n hX 21 rfl 1 xnd_PA_enter_20 rfl rfl ?_
  refine xf_imul hX 22 rfl xnd_PA_enter_21 ?_
  refine xf_istore hX 24 rfl xnd_PA_enter_22 (by decide) ?_
  dsimp only [List.set]
  rw [e1, e2]
  have V := loop (xw_w P) ((xw_w P) * j) (σ.2 15) (σ.2 16) (σ.2 17) m0 (by omega) (by omega) hm0 hRR
  rw [xs_pack_id σ m0 hq0] at V
  exact V

set_option maxRecDepth 100000 in
set_option maxHeartbeats 4000000 in
theorem xc_keep (P : xw_T) (σ τ : xf_T) (last : Int32) (d : Nat) (hl : vp_in last (8 * (xw_w P))) (hD : σ.2 17 last.toNatClampNeg = nI d) (hd : d ≤ 4) (hch : xs_chain (8 * (xw_w P)) (σ.2 16) d last) : xf_F (xw_l P) xny_PA_keep xnc_PA_keep 4 none 0 0 (xw_W P) (xw_D P) (xw_ty P) [.ref (xw_a P 13), .int last] (σ, τ) none (xs_kp σ last, τ) := by
  refine xf_start (own := xnR_PA) [some (.ref (xw_a P 13)), some (.int last), none, none] rfl (by decide) (Nat.le_of_ble_eq_true rfl) rfl (xf_cat rfl) ?_
  intro X hX hE
  have hcl : (nI d).toNatClampNeg = d := nI_clamp (by omega)
  have hkp : xs_kp σ last = xs_sA (xf_I σ 19 (nI d)) 14 (xb_keep (σ.2 16) d last (σ.2 14)) := by
    unfold xs_kp
    rw [hD, hcl]
    rfl
  rw [hkp] at hE
  generalize hRR : xb_keep (σ.2 16) d last (σ.2 14) = RR at hE
  have loop : ∀ k p f, k ≤ 4 → xs_chain (8 * (xw_w P)) (σ.2 16) k p → xb_keep (σ.2 16) k p f = RR → xf_V X 17 [some (.ref (xw_a P 13)), some (.int last), some (.int p), some (.int (nI k))] [] (xs_sA (xf_I σ 19 (nI d)) 14 f, τ) := by
    intro k
    induction k with
    | zero =>
      intro p f hk hc hR
      refine xf_iload_n hX 18 rfl 3 xnd_PA_keep_17 rfl rfl ?_
      refine xf_if_le hX 21 rfl 41 xnd_PA_keep_18 (by decide) (fun _ => ?_) (fun h18 => absurd (by decide) h18)
      refine xf_aload_n hX 42 rfl 0 xnd_PA_keep_41 rfl rfl ?_
      refine xg_PA_stops hX 45 rfl xk_PA_15 xnd_PA_keep_42 ?_
      refine xf_iconst hX 46 rfl (0) xnd_PA_keep_45 (by decide) ?_
      refine xf_iload_n hX 47 rfl 2 xnd_PA_keep_46 rfl rfl ?_
      refine xaX_iastore hX 48 rfl rfl (show vp_in _ 5 from vp_in_nI (n := 0) (by omega) (by omega)) xnd_PA_keep_47 ?_
      rw [xs_A_sA]
      refine xf_vret hX hE xnd_PA_keep_48 ?_
      exact ⟨rfl, by rw [← hR]; rfl⟩
    | succ k ih =>
      intro p f hk hc hR
      refine xf_iload_n hX 18 rfl 3 xnd_PA_keep_17 rfl rfl ?_
      refine xf_if_le hX 21 rfl 41 xnd_PA_keep_18 (by decide) (fun h18 => absurd h18 (nI_nle (by omega) (by omega))) (fun _ => ?_)
      refine xf_aload_n hX 22 rfl 0 xnd_PA_keep_21 rfl rfl ?_
      refine xg_PA_stops hX 25 rfl xk_PA_15 xnd_PA_keep_22 ?_
      refine xf_iload_n hX 26 rfl 3 xnd_PA_keep_25 rfl rfl ?_
      refine xf_iload_n hX 27 rfl 2 xnd_PA_keep_26 rfl rfl ?_
      refine xaX_iastore hX 28 rfl rfl (show vp_in _ 5 from vp_in_nI (by omega) (by omega)) xnd_PA_keep_27 ?_
      rw [nI_clamp (by omega), xs_A_sA]
      refine xf_aload_n hX 29 rfl 0 xnd_PA_keep_28 rfl rfl ?_
      refine xg_PA_before hX 32 rfl xk_PA_27 xnd_PA_keep_29 ?_
      refine xf_iload_n hX 33 rfl 2 xnd_PA_keep_32 rfl rfl ?_
      refine xaX_iaload hX 34 rfl rfl hc.1 xnd_PA_keep_33 ?_
      refine xf_istore_n hX 35 rfl 2 xnd_PA_keep_34 rfl (by decide) ?_
      dsimp only [List.set]
      refine xf_iinc hX 38 rfl (nI k) xnd_PA_keep_35 rfl (pk_m1 k) (by decide) ?_
      dsimp only [List.set]
      refine xf_goto hX 17 xnd_PA_keep_38 (by decide) ?_
      exact ih _ _ (by omega) hc.2 hR
  refine xf_aload_n hX 1 rfl 0 xnd_PA_keep_0 rfl rfl ?_
  refine xf_aload_n hX 2 rfl 0 xnd_PA_keep_1 rfl rfl ?_
  refine xg_PA_depths hX 5 rfl xk_PA_30 xnd_PA_keep_2 ?_
  refine xf_iload_n hX 6 rfl 1 xnd_PA_keep_5 rfl rfl ?_
  refine xaX_iaload hX 7 rfl rfl hl xnd_PA_keep_6 ?_
  rw [hD]
  refine xp_PA_length hX 10 rfl xk_PA_68 xnd_PA_keep_7 ?_
  refine xf_iload_n hX 11 rfl 1 xnd_PA_keep_10 rfl rfl ?_
  refine xf_istore_n hX 12 rfl 2 xnd_PA_keep_11 rfl (by decide) ?_
  dsimp only [List.set]
  refine xf_aload_n hX 13 rfl 0 xnd_PA_keep_12 rfl rfl ?_
  refine xg_PA_length hX 16 rfl xk_PA_68 xnd_PA_keep_13 ?_
  change xf_V X 16 _ [.int (nI d)] _
  refine xf_istore_n hX 17 rfl 3 xnd_PA_keep_16 rfl (by decide) ?_
  dsimp only [List.set]
  have V := loop d last (σ.2 14) hd hch hRR
  have e0 : xs_sA (xf_I σ 19 (nI d)) 14 (σ.2 14) = xf_I σ 19 (nI d) := xs_sA_id (xf_I σ 19 (nI d)) 14
  rw [e0] at V
  exact V
end
section
/-! Contracts of the class: the search itself, and a step of the writer. Laid by wip/gen/class7.py. -/
theorem xb_chain {w : Nat} {sb nb : Nat → Nat} {oc : Nat → Prop} (hw : 8 * w < 2 ^ 31) {hp he m : Nat} {Q Bf Dp : Nat → Int32} {q dep cd : Nat → Nat} (I : xb_inv w sb nb oc hp he m Q Bf Dp q dep cd) : ∀ (k i : Nat), i < m → dep (q i) = k → xs_chain (8 * w) Bf k (nI (q i))
  | 0, i, _, _ => trivial
  | k + 1, i, hi, hd => by
    obtain ⟨e1, e2, e3, e4, e5, e6, e7⟩ := (I.1 i hi).2
    obtain ⟨i', a1, a2, a3, a4, a5⟩ := e7 k hd
    refine ⟨vp_in_nI e1 hw, ?_⟩
    rw [nI_clamp (by omega), a5]
    exact xb_chain hw I k i' (Nat.lt_of_lt_of_le a1 I.2.2.2.2.1) a3
theorem xs_nb_lt {w : Nat} (hw : 0 < w) (σ : xf_T) {p : Nat} (hp : p < 8 * w) : xs_nb w σ p < 8 ∧ ∃ j, j < 8 ∧ xs_ob (nI (p / w)) (σ.2 6 (σ.2 5 p).toNatClampNeg) = nI j := by
  have h8 : p / w < 8 := (Nat.div_lt_iff_lt_mul hw).mpr hp
  obtain ⟨j, hj, e⟩ := xs_ob_is h8 (σ.2 6 (σ.2 5 p).toNatClampNeg)
  refine ⟨?_, j, hj, e⟩
  unfold xs_nb
  rw [e, nI_clamp (by omega)]
  exact hj
theorem xm_sb_lt (key : Int32) : xm_sb key 0 < 8 ∧ xm_sb key 1 < 8 := by
  obtain ⟨j, hj, e⟩ := xs_b1_is key
  obtain ⟨i, hi, e'⟩ := xs_b2_is key
  unfold xm_sb
  rw [if_pos rfl, if_neg (by decide), e, e', nI_clamp (by omega), nI_clamp (by omega)]
  exact ⟨hj, hi⟩
theorem xc_enterP (P : xw_T) (σ τ : xf_T) (a : (Nat → Int32) × (Nat → Int32) × (Nat → Int32) × Nat) (b fr dp : Int32) (hw : 1 ≤ xw_w P ∧ xw_w P ≤ 4) (hb : ∃ j, j < 8 ∧ b = nI j) (hd : dp ≠ -1) (hm0 : xb_cnt a.2.2.1 (8 * xw_w P) = a.2.2.2) : xf_F (xw_l P) xny_PA_enter xnc_PA_enter 6 none 0 0 (xw_W P) (xw_D P) (xw_ty P) [.ref (xw_a P 13), .int b, .int fr, .int dp] (xs_pack σ a, τ) none (xs_pack σ (xb_enter fr dp (xw_w P) (xw_w P * b.toNatClampNeg) a), τ) := by
  obtain ⟨Q, Bf, Dp, m⟩ := a
  have h := xc_enter P (xs_pack σ (Q, Bf, Dp, m)) τ b fr dp m hw hb hd hm0 rfl
  rw [xs_pack_pack] at h
  exact h
theorem xc_fillP (P : xw_T) (σ τ : xf_T) (hw : 1 ≤ xw_w P ∧ xw_w P ≤ 4) : xf_F (xw_l P) xny_AR_fill xnc_AR_fill 4 none 0 0 (xw_W P) (xw_D P) (xw_ty P) [.ref (xw_a P 17), .int (-1)] (xf_I σ 20 0, τ) none (xs_pack σ (σ.2 15, σ.2 16, xs_fill (8 * xw_w P) (σ.2 17) (-1) (8 * xw_w P), 0), τ) := by
  have h := xc_fill P (xf_I σ 20 0) τ (-1) hw
  rw [xs_pack_0] at h
  exact h
theorem xs_pk15 {σ : xf_T} {a : (Nat → Int32) × (Nat → Int32) × (Nat → Int32) × Nat} : (xs_pack σ a).2 15 = a.1 := rfl
theorem xs_pk17 {σ : xf_T} {a : (Nat → Int32) × (Nat → Int32) × (Nat → Int32) × Nat} : (xs_pack σ a).2 17 = a.2.2.1 := rfl
theorem xs_pk16 {σ : xf_T} {a : (Nat → Int32) × (Nat → Int32) × (Nat → Int32) × Nat} : (xs_pack σ a).2 16 = a.2.1 := rfl
theorem xs_pk5 {σ : xf_T} {a : (Nat → Int32) × (Nat → Int32) × (Nat → Int32) × Nat} : (xs_pack σ a).2 5 = σ.2 5 := rfl
theorem xs_pk6 {σ : xf_T} {a : (Nat → Int32) × (Nat → Int32) × (Nat → Int32) × Nat} : (xs_pack σ a).2 6 = σ.2 6 := rfl
theorem xs_pk20 {σ : xf_T} {a : (Nat → Int32) × (Nat → Int32) × (Nat → Int32) × Nat} : (xs_pack σ a).1 20 = nI a.2.2.2 := rfl
set_option maxRecDepth 100000 in
set_option maxHeartbeats 4000000 in
theorem xc_seek_loop (P : xw_T) (σ τ : xf_T) (key : Int32) (ho : xs_okP (xw_n P) (xw_w P) σ) {X : xf_C} (hX : xf_ok X (xw_l P) xnR_PA xnc_PA_seek 4 4 81 (xw_W P) (xw_D P) (xw_ty P)) {RES : Option Nat × (Nat → Int32) × (Nat → Int32) × (Nat → Int32) × Nat} (hE : xf_end X (some .boolean) (fun v u => v = some (.int (if RES.1 = none then 0 else 1)) ∧ u = (xs_res σ RES, τ))) : ∀ r h a x3, r + h = 8 * (xw_w P) → (∃ q dep cd, xb_inv (xw_w P) (xm_sb key) (xs_nb (xw_w P) σ) (fun p => ¬ σ.2 5 p = -1) h h a.2.2.2 a.1 a.2.1 a.2.2.1 q dep cd) → xs_bfs (xw_w P) σ r h a = RES → xf_V X 35 [some (.ref (xw_a P 13)), some (.int key), some (.int (nI h)), x3] [] (xs_pack σ a, τ) := by
  have hw := ho.2
  intro r
  induction r with
  | zero =>
    intro h a x3 hh hI hR
    refine xf_iload_n hX 36 rfl 2 xnd_PA_seek_35 rfl rfl ?_
    refine xf_aload_n hX 37 rfl 0 xnd_PA_seek_36 rfl rfl ?_
    refine xg_PA_queue hX 40 rfl xk_PA_24 xnd_PA_seek_37 ?_
    refine xaX_alen hX 41 rfl rfl xnd_PA_seek_40 ?_
    change xf_V X 41 _ [.int (nI (8 * xw_w P)), _] _
    refine xf_icmp_ge hX 44 rfl 137 xnd_PA_seek_41 (by decide) (fun _ => ?_) (fun h41 => absurd (nI_le (by omega) (by omega)) h41)
    refine xf_iconst hX 138 rfl (0) xnd_PA_seek_137 (by decide) ?_
    refine xf_zret hX hE xnd_PA_seek_138 rfl ?_
    rw [← hR]
    exact ⟨rfl, rfl⟩
  | succ r ih =>
    intro h a x3 hh hI hR
    obtain ⟨q, dep, cd, I⟩ := hI
    have hmle := I.le
    refine xf_iload_n hX 36 rfl 2 xnd_PA_seek_35 rfl rfl ?_
    refine xf_aload_n hX 37 rfl 0 xnd_PA_seek_36 rfl rfl ?_
    refine xg_PA_queue hX 40 rfl xk_PA_24 xnd_PA_seek_37 ?_
    refine xaX_alen hX 41 rfl rfl xnd_PA_seek_40 ?_
    change xf_V X 41 _ [.int (nI (8 * xw_w P)), _] _
    refine xf_icmp_ge hX 44 rfl 137 xnd_PA_seek_41 (by decide) (fun h41 => absurd h41 (nI_ge (by omega) (by omega))) (fun _ => ?_)
    refine xf_iload_n hX 45 rfl 2 xnd_PA_seek_44 rfl rfl ?_
    refine xf_aload_n hX 46 rfl 0 xnd_PA_seek_45 rfl rfl ?_
    refine xg_PA_queued hX 49 rfl xk_PA_33 xnd_PA_seek_46 ?_
    rw [xs_pk20]
    refine xf_icmp_ge hX 52 rfl 137 xnd_PA_seek_49 (by decide) (fun h49 => ?_) (fun h49 => ?_)
    · have hm : ¬ h < a.2.2.2 := by rw [nI_leI (by omega) (by omega)] at h49; omega
      rw [xs_bfs, if_neg hm] at hR
      refine xf_iconst hX 138 rfl (0) xnd_PA_seek_137 (by decide) ?_
      refine xf_zret hX hE xnd_PA_seek_138 rfl ?_
      rw [← hR]
      exact ⟨rfl, rfl⟩
    · have hm : h < a.2.2.2 := by rw [nI_leI (by omega) (by omega)] at h49; omega
      obtain ⟨eQ, e1, e2, e3, e4, e5, e6, e7⟩ := I.1 h hm
      have hcl : (nI (q h)).toNatClampNeg = q h := nI_clamp (by omega)
      rw [xs_bfs, if_pos hm, eQ, hcl] at hR
      refine xf_aload_n hX 53 rfl 0 xnd_PA_seek_52 rfl rfl ?_
      refine xg_PA_queue hX 56 rfl xk_PA_24 xnd_PA_seek_53 ?_
      refine xf_iload_n hX 57 rfl 2 xnd_PA_seek_56 rfl rfl ?_
      refine xaX_iaload hX 58 rfl rfl (show vp_in _ (8 * xw_w P) from vp_in_nI (by omega) (by omega)) xnd_PA_seek_57 ?_
      rw [nI_clamp (by omega)]
      rw [xs_pk15, eQ]
      refine xf_istore_n hX 59 rfl 3 xnd_PA_seek_58 rfl (by decide) ?_
      dsimp only [List.set]
      refine xf_aload_n hX 60 rfl 0 xnd_PA_seek_59 rfl rfl ?_
      refine xg_PA_store hX 63 rfl xk_PA_9 xnd_PA_seek_60 ?_
      refine xg_ST_places hX 66 rfl xk_PA_19 xnd_PA_seek_63 ?_
      refine xf_iload_n hX 67 rfl 3 xnd_PA_seek_66 rfl rfl ?_
      refine xaX_iaload hX 68 rfl rfl (show vp_in _ (8 * xw_w P) from vp_in_nI e1 (by omega)) xnd_PA_seek_67 ?_
      rw [hcl, xs_pk5]
      refine xf_iconst hX 69 rfl (-1) xnd_PA_seek_68 (by decide) ?_
      refine xf_icmp_ne hX 72 rfl 79 xnd_PA_seek_69 (by decide) (fun h69 => ?_) (fun h69 => ?_)
      · refine xf_aload_n hX 80 rfl 0 xnd_PA_seek_79 rfl rfl ?_
        refine xg_PA_depths hX 83 rfl xk_PA_30 xnd_PA_seek_80 ?_
        refine xf_iload_n hX 84 rfl 3 xnd_PA_seek_83 rfl rfl ?_
        refine xaX_iaload hX 85 rfl rfl (show vp_in _ (8 * xw_w P) from vp_in_nI e1 (by omega)) xnd_PA_seek_84 ?_
        rw [hcl, xs_pk17, e2]
        refine xf_iconst hX 86 rfl (4) xnd_PA_seek_85 (by decide) ?_
        refine xf_icmp_ge hX 89 rfl 131 xnd_PA_seek_86 (by decide) (fun h86 => ?_) (fun h86 => ?_)
        · refine xf_iinc hX 134 rfl (nI (h + 1)) xnd_PA_seek_131 rfl (by rw [nI_succ]; rfl) (by decide) ?_
          dsimp only [List.set]
          refine xf_goto hX 35 xnd_PA_seek_134 (by decide) ?_
          have hd4 : ¬ dep (q h) < 4 := by rw [show (4 : Int32) = nI 4 from rfl, nI_leI (by omega) (by omega)] at h86; omega
          refine ih (h + 1) a _ (by omega) ⟨q, dep, cd, xb_skip I hm h69 hd4⟩ ?_
          rw [if_neg h69, e2, if_pos h86] at hR
          exact hR
        · refine xf_aload_n hX 90 rfl 0 xnd_PA_seek_89 rfl rfl ?_
          refine xf_iload_n hX 91 rfl 3 xnd_PA_seek_90 rfl rfl ?_
          refine xf_aload_n hX 92 rfl 0 xnd_PA_seek_91 rfl rfl ?_
          refine xg_PA_store hX 95 rfl xk_PA_9 xnd_PA_seek_92 ?_
          refine xg_ST_ways hX 98 rfl xk_PA_58 xnd_PA_seek_95 ?_
          refine xf_idiv hX 99 rfl xnd_PA_seek_98 (nI_ne0 (by omega) (by omega)) ?_
          rw [pk_div (by omega) (by omega) (by omega)]
          refine xf_aload_n hX 100 rfl 0 xnd_PA_seek_99 rfl rfl ?_
          refine xg_PA_store hX 103 rfl xk_PA_9 xnd_PA_seek_100 ?_
          refine xg_ST_keys hX 106 rfl xk_PA_61 xnd_PA_seek_103 ?_
          refine xf_aload_n hX 107 rfl 0 xnd_PA_seek_106 rfl rfl ?_
          refine xg_PA_store hX 110 rfl xk_PA_9 xnd_PA_seek_107 ?_
          refine xg_ST_places hX 113 rfl xk_PA_19 xnd_PA_seek_110 ?_
          refine xf_iload_n hX 114 rfl 3 xnd_PA_seek_113 rfl rfl ?_
          refine xaX_iaload hX 115 rfl rfl (show vp_in _ (8 * xw_w P) from vp_in_nI e1 (by omega)) xnd_PA_seek_114 ?_
          rw [hcl, xs_pk5]
          refine xaX_iaload hX 116 rfl rfl (ho.in e1 h69) xnd_PA_seek_115 ?_
          rw [xs_pk6]
          refine xf_T2i hX 119 rfl (xc_ob P _ _ _ _) xq_SC_otherBucket xk_PA_64 rfl rfl xnd_PA_seek_116 ?_
          refine xf_iload_n hX 120 rfl 3 xnd_PA_seek_119 rfl rfl ?_
          refine xf_aload_n hX 121 rfl 0 xnd_PA_seek_120 rfl rfl ?_
          refine xg_PA_depths hX 124 rfl xk_PA_30 xnd_PA_seek_121 ?_
          refine xf_iload_n hX 125 rfl 3 xnd_PA_seek_124 rfl rfl ?_
          refine xaX_iaload hX 126 rfl rfl (show vp_in _ (8 * xw_w P) from vp_in_nI e1 (by omega)) xnd_PA_seek_125 ?_
          rw [hcl, xs_pk17, e2]
          refine xf_iconst hX 127 rfl (1) xnd_PA_seek_126 (by decide) ?_
          refine xf_iadd hX 128 rfl xnd_PA_seek_127 ?_
          rw [nI_1]
          refine xf_V3v hX 131 rfl (xc_enterP P _ _ _ _ _ _ (by omega) (xs_nb_lt (by omega) σ e1).2 (xb_nIm1 (by omega)) I.2.2.2.2.2.2) xq_PA_enter xk_PA_47 xrX_PA rfl rfl xnd_PA_seek_128 ?_
          change xf_V X 131 _ _ (xs_pack σ (xb_enter (nI (q h)) (nI (dep (q h) + 1)) (xw_w P) ((xw_w P) * xs_nb (xw_w P) σ (q h)) a), τ)
          refine xf_iinc hX 134 rfl (nI (h + 1)) xnd_PA_seek_131 rfl (by rw [nI_succ]; rfl) (by decide) ?_
          dsimp only [List.set]
          refine xf_goto hX 35 xnd_PA_seek_134 (by decide) ?_
          have hd4 : dep (q h) < 4 := by rw [show (4 : Int32) = nI 4 from rfl, nI_leI (by omega) (by omega)] at h86; omega
          obtain ⟨m', Q', Bf', Dp', q', dep', cd', g1, g2, g3⟩ := xb_expand (by omega) (by omega) I hm h69 hd4 (xs_nb_lt (by omega) σ e1).1
          rw [if_neg h69, e2, if_neg h86, nI_1] at hR
          have g1 : xb_enter (nI (q h)) (nI (dep (q h) + 1)) (xw_w P) ((xw_w P) * xs_nb (xw_w P) σ (q h)) a = (Q', Bf', Dp', m') := g1
          rw [g1] at hR ⊢
          exact ih (h + 1) (Q', Bf', Dp', m') _ (by omega) ⟨q', dep', cd', g2⟩ hR
      · refine xf_aload_n hX 73 rfl 0 xnd_PA_seek_72 rfl rfl ?_
        refine xf_iload_n hX 74 rfl 3 xnd_PA_seek_73 rfl rfl ?_
        refine xf_V1v hX 77 rfl (xc_keep P _ _ _ (dep (q h)) (show vp_in _ (8 * xw_w P) from vp_in_nI e1 (by omega)) (by rw [hcl, xs_pk17]; exact e2) e3 (by rw [xs_pk16]; exact xb_chain (by omega) I _ _ hm rfl)) xq_PA_keep xk_PA_54 xrX_PA rfl rfl xnd_PA_seek_74 ?_
        refine xf_iconst hX 78 rfl (1) xnd_PA_seek_77 (by decide) ?_
        refine xf_zret hX hE xnd_PA_seek_78 rfl ?_
        rw [if_pos h69] at hR
        rw [← hR]
        exact ⟨rfl, rfl⟩
set_option maxRecDepth 100000 in
set_option maxHeartbeats 4000000 in
theorem xc_seek (P : xw_T) (σ τ : xf_T) (key : Int32) (ho : xs_okP (xw_n P) (xw_w P) σ) : xf_F (xw_l P) xny_PA_seek xnc_PA_seek 4 (some .boolean) 4 81 (xw_W P) (xw_D P) (xw_ty P) [.ref (xw_a P 13), .int key] (σ, τ) (some (.int (xs_seekB (xw_w P) σ key))) (xs_seek (xw_w P) σ key, τ) := by
  refine xf_start (own := xnR_PA) [some (.ref (xw_a P 13)), some (.int key), none, none] rfl (by decide) (Nat.le_of_ble_eq_true rfl) rfl (xf_cat rfl) ?_
  intro X hX hE
  have hw := ho.2
  obtain ⟨hs0, hs1⟩ := xm_sb_lt key
  have hb0 : xs_bfs0 (xw_w P) σ key = xs_bfs (xw_w P) σ (8 * (xw_w P)) 0 (xb_enter (-1) 0 (xw_w P) ((xw_w P) * (xs_b2 key).toNatClampNeg) (xb_enter (-1) 0 (xw_w P) ((xw_w P) * (xs_b1 key).toNatClampNeg) (σ.2 15, σ.2 16, (xs_fill (8 * (xw_w P)) (σ.2 17) (-1) (8 * (xw_w P))), 0))) := by unfold xs_bfs0; rfl
  unfold xs_seekB xs_seek at hE
  generalize hRES : xs_bfs0 (xw_w P) σ key = RES at hE hb0
  have hD0 : ∀ p, p < 8 * (xw_w P) → (xs_fill (8 * (xw_w P)) (σ.2 17) (-1) (8 * (xw_w P))) p = -1 := fun p hp => if_pos hp
  have hc0 : xb_cnt (xs_fill (8 * (xw_w P)) (σ.2 17) (-1) (8 * (xw_w P))) (8 * (xw_w P)) = 0 := xb_cnt_0 hD0
  have hc1 : xb_cnt (xb_enter (-1) 0 (xw_w P) ((xw_w P) * (xs_b1 key).toNatClampNeg) (σ.2 15, σ.2 16, (xs_fill (8 * (xw_w P)) (σ.2 17) (-1) (8 * (xw_w P))), 0)).2.2.1 (8 * (xw_w P)) = (xb_enter (-1) 0 (xw_w P) ((xw_w P) * (xs_b1 key).toNatClampNeg) (σ.2 15, σ.2 16, (xs_fill (8 * (xw_w P)) (σ.2 17) (-1) (8 * (xw_w P))), 0)).2.2.2 := by
    refine xb_enter_cnt (by decide) _ _ _ ?_ hc0
    obtain ⟨j, hj, e⟩ := xs_b1_is key
    rw [e, nI_clamp (by omega)]
    exact xr_bkb hj
  obtain ⟨m2, Q2, B2, D2, q2, dp2, c2, b1, b2, b3⟩ := xb_begin (w := (xw_w P)) (sb := xm_sb key) (nb := xs_nb (xw_w P) σ) (oc := fun p => ¬ σ.2 5 p = -1) (f := -1) (Q := σ.2 15) (Bf := σ.2 16) (by omega) hs0 hs1 hD0
  have es0 : xm_sb key 0 = (xs_b1 key).toNatClampNeg := by unfold xm_sb; rw [if_pos rfl]
  have es1 : xm_sb key 1 = (xs_b2 key).toNatClampNeg := by unfold xm_sb; rw [if_neg (by decide)]
  rw [es0, es1, nI_0] at b1
  rw [b1] at hb0
  have loop := xc_seek_loop P σ τ key ho hX hE
  refine xf_aload_n hX 1 rfl 0 xnd_PA_seek_0 rfl rfl ?_
  refine xf_iconst hX 2 rfl (0) xnd_PA_seek_1 (by decide) ?_
  refine xp_PA_queued hX 5 rfl xk_PA_33 xnd_PA_seek_2 ?_
  refine xf_aload_n hX 6 rfl 0 xnd_PA_seek_5 rfl rfl ?_
  refine xg_PA_depths hX 9 rfl xk_PA_30 xnd_PA_seek_6 ?_
  refine xf_iconst hX 10 rfl (-1) xnd_PA_seek_9 (by decide) ?_
  refine xf_S2v hX 13 rfl (xc_fillP P _ _ (by omega)) xq_AR_fill xk_PA_37 rfl rfl xnd_PA_seek_10 ?_
  refine xf_aload_n hX 14 rfl 0 xnd_PA_seek_13 rfl rfl ?_
  refine xf_iload_n hX 15 rfl 1 xnd_PA_seek_14 rfl rfl ?_
  refine xf_T1i hX 18 rfl (xc_firstBucket P _ _ _) xq_SC_firstBucket xk_PA_43 rfl rfl xnd_PA_seek_15 ?_
  refine xf_iconst hX 19 rfl (-1) xnd_PA_seek_18 (by decide) ?_
  refine xf_iconst hX 20 rfl (0) xnd_PA_seek_19 (by decide) ?_
  refine xf_V3v hX 23 rfl (xc_enterP P _ _ _ _ _ _ (by omega) (xs_b1_is _) (by decide) hc0) xq_PA_enter xk_PA_47 xrX_PA rfl rfl xnd_PA_seek_20 ?_
  refine xf_aload_n hX 24 rfl 0 xnd_PA_seek_23 rfl rfl ?_
  refine xf_iload_n hX 25 rfl 1 xnd_PA_seek_24 rfl rfl ?_
  refine xf_T1i hX 28 rfl (xc_secondBucket P _ _ _) xq_SC_secondBucket xk_PA_51 rfl rfl xnd_PA_seek_25 ?_
  refine xf_iconst hX 29 rfl (-1) xnd_PA_seek_28 (by decide) ?_
  refine xf_iconst hX 30 rfl (0) xnd_PA_seek_29 (by decide) ?_
  refine xf_V3v hX 33 rfl (xc_enterP P _ _ _ _ _ _ (by omega) (xs_b2_is _) (by decide) hc1) xq_PA_enter xk_PA_47 xrX_PA rfl rfl xnd_PA_seek_30 ?_
  rw [b1]
  refine xf_iconst hX 34 rfl (0) xnd_PA_seek_33 (by decide) ?_
  refine xf_istore_n hX 35 rfl 2 xnd_PA_seek_34 rfl (by decide) ?_
  dsimp only [List.set]
  exact loop (8 * (xw_w P)) 0 (Q2, B2, D2, m2) _ (by omega) ⟨q2, dp2, c2, b2⟩ hb0.symm

set_option maxRecDepth 100000 in
set_option maxHeartbeats 4000000 in
theorem xc_seekP (P : xw_T) (σ τ : xf_T) (ho : xs_okP (xw_n P) (xw_w P) σ) : xf_F (xw_l P) xny_WR_seekPath xnc_WR_seekPath 1 none 5 104 (xw_W P) (xw_D P) (xw_ty P) [.ref (xw_a P 3)] (σ, τ) none (xs_seekP (xw_w P) σ, τ) := by
  refine xf_start (own := xnR_WR) [some (.ref (xw_a P 3))] rfl (by decide) (Nat.le_of_ble_eq_true rfl) rfl (xf_cat rfl) ?_
  intro X hX hE
  refine xf_aload_n hX 1 rfl 0 xnd_WR_seekPath_0 rfl rfl ?_
  refine xg_WR_path hX 4 rfl xk_WR_24 xnd_WR_seekPath_1 ?_
  refine xf_aload_n hX 5 rfl 0 xnd_WR_seekPath_4 rfl rfl ?_
  refine xg_WR_key hX 8 rfl xk_WR_35 xnd_WR_seekPath_5 ?_
  refine xf_V1i hX 11 rfl (xc_seek P _ _ _ ho) xq_PA_seek xk_WR_142 xrX_PA rfl rfl xnd_WR_seekPath_8 ?_
  refine xf_if_eq hX 14 rfl 32 xnd_WR_seekPath_11 (by decide) (fun h11 => ?_) (fun h11 => ?_)
  · refine xf_aload_n hX 33 rfl 0 xnd_WR_seekPath_32 rfl rfl ?_
    refine xf_bipush hX 35 rfl (6) xnd_WR_seekPath_33 (by decide) ?_
    refine xp_WR_outcome hX 38 rfl xk_WR_28 xnd_WR_seekPath_35 ?_
    refine xf_vret hX hE xnd_WR_seekPath_38 ?_
    refine ⟨rfl, ?_⟩
    simp only [xs_seekP, eq_true h11, if_true, if_false]
  · refine xf_aload_n hX 15 rfl 0 xnd_WR_seekPath_14 rfl rfl ?_
    refine xf_aload_n hX 16 rfl 0 xnd_WR_seekPath_15 rfl rfl ?_
    refine xg_WR_path hX 19 rfl xk_WR_24 xnd_WR_seekPath_16 ?_
    refine xg_PA_length hX 22 rfl xk_WR_145 xnd_WR_seekPath_19 ?_
    refine xp_WR_moving hX 25 rfl xk_WR_148 xnd_WR_seekPath_22 ?_
    refine xf_aload_n hX 26 rfl 0 xnd_WR_seekPath_25 rfl rfl ?_
    refine xf_V0v hX 29 rfl (xc_chM P _ _) xq_WR_chooseMove xk_WR_151 xrX_WR rfl rfl xnd_WR_seekPath_26 ?_
    refine xf_goto hX 38 xnd_WR_seekPath_29 (by decide) ?_
    refine xf_vret hX hE xnd_WR_seekPath_38 ?_
    refine ⟨rfl, ?_⟩
    simp only [xs_seekP, h11, if_true, if_false]
end
section
/-! Contracts of the class: a step of the writer; the readers. Laid by wip/gen/class8.py. -/
/-- what a step of the writer needs -/
def xs_okW (n w : Nat) (σ : xf_T) : Prop := xs_okP n w σ ∧ xs_okH n σ ∧ (σ.1 16 = 1 ∨ σ.1 16 = 2 → vp_in (σ.1 17) n) ∧
  (σ.1 16 = 5 → vp_in (σ.1 18) 5 ∧ vp_in (σ.1 18 + 1) 5 ∧ vp_in (σ.2 14 (σ.1 18).toNatClampNeg) (8 * w) ∧ vp_in (σ.2 14 (σ.1 18 + 1).toNatClampNeg) (8 * w) ∧ vp_in (xs_mi σ) n) ∧
  (σ.1 16 = 6 → vp_in (σ.1 18) 5 ∧ vp_in (σ.2 14 (σ.1 18).toNatClampNeg) (8 * w) ∧ vp_in (xs_mi σ) n) ∧
  (¬ σ.1 16 = 0 → ¬ σ.1 16 = 1 → ¬ σ.1 16 = 2 → ¬ σ.1 16 = 3 → ¬ σ.1 16 = 4 → ¬ σ.1 16 = 5 → ¬ σ.1 16 = 6 → vp_in (σ.2 14 0) (8 * w))
theorem xs_okP.fIn {n w : Nat} {σ : xf_T} (h : xs_okP n w σ) {b : Int32} (hb : ∃ j, j < 8 ∧ b = nI j) (key : Int32) : xs_findIn w σ b key = -1 ∨ vp_in (xs_findIn w σ b key) (8 * w) := by
  obtain ⟨j, hj, rfl⟩ := hb
  have hw := h.2
  have h8 := xr_bkb (w := w) hj
  unfold xs_findIn
  rw [nI_clamp (by omega)]
  rcases xs_fi_is (σ.2 5) (σ.2 6) key w (w * j) with g | ⟨q, g1, g2, g3, -⟩
  · exact Or.inl g
  · exact Or.inr (xs_in g3 (by omega) (by omega))
set_option maxRecDepth 100000 in
set_option maxHeartbeats 4000000 in
theorem xc_goOn (P : xw_T) (σ τ : xf_T) (hW : xs_okW (xw_n P) (xw_w P) σ) : xf_F (xw_l P) xny_WR_goOn xnc_WR_goOn 1 none 6 127 (xw_W P) (xw_D P) (xw_ty P) [.ref (xw_a P 3)] (σ, τ) none (xs_goOn (xw_n P) (xw_w P) σ, τ) := by
  refine xf_start (own := xnR_WR) [some (.ref (xw_a P 3))] rfl (by decide) (Nat.le_of_ble_eq_true rfl) rfl (xf_cat rfl) ?_
  intro X hX hE
  refine xf_aload_n hX 1 rfl 0 xnd_WR_goOn_0 rfl rfl ?_
  refine xg_WR_next hX 4 rfl xk_WR_47 xnd_WR_goOn_1 ?_
  by_cases c4_0 : σ.1 16 = 0
  · rw [c4_0]
    refine xf_tabIn hX 48 xnd_WR_goOn_4 (by decide) (by decide) rfl (by decide) ?_
    refine xf_aload_n hX 49 rfl 0 xnd_WR_goOn_48 rfl rfl ?_
    refine xf_V0v hX 52 rfl (xc_luk P _ _ hW.1) xq_WR_lookUpKey xk_WR_50 xrX_WR rfl rfl xnd_WR_goOn_49 ?_
    refine xf_goto hX 101 xnd_WR_goOn_52 (by decide) ?_
    refine xf_vret hX hE xnd_WR_goOn_101 ?_
    refine ⟨rfl, ?_⟩
    simp only [xs_goOn, eq_true c4_0, if_true, if_false]
  by_cases c4_1 : σ.1 16 = 1
  · rw [c4_1]
    refine xf_tabIn hX 55 xnd_WR_goOn_4 (by decide) (by decide) rfl (by decide) ?_
    refine xf_aload_n hX 56 rfl 0 xnd_WR_goOn_55 rfl rfl ?_
    refine xf_V0v hX 59 rfl (xc_chV P _ _ (hW.2.2.1 (Or.inl c4_1))) xq_WR_changeValue xk_WR_53 xrX_WR rfl rfl xnd_WR_goOn_56 ?_
    refine xf_goto hX 101 xnd_WR_goOn_59 (by decide) ?_
    refine xf_vret hX hE xnd_WR_goOn_101 ?_
    refine ⟨rfl, ?_⟩
    simp only [xs_goOn, c4_0, eq_true c4_1, if_true, if_false]
  by_cases c4_2 : σ.1 16 = 2
  · rw [c4_2]
    refine xf_tabIn hX 62 xnd_WR_goOn_4 (by decide) (by decide) rfl (by decide) ?_
    refine xf_aload_n hX 63 rfl 0 xnd_WR_goOn_62 rfl rfl ?_
    refine xf_V0v hX 66 rfl (xc_chT P _ _ (hW.2.2.1 (Or.inr c4_2))) xq_WR_changeToken xk_WR_56 xrX_WR rfl rfl xnd_WR_goOn_63 ?_
    refine xf_goto hX 101 xnd_WR_goOn_66 (by decide) ?_
    refine xf_vret hX hE xnd_WR_goOn_101 ?_
    refine ⟨rfl, ?_⟩
    simp only [xs_goOn, c4_0, c4_1, eq_true c4_2, if_true, if_false]
  by_cases c4_3 : σ.1 16 = 3
  · rw [c4_3]
    refine xf_tabIn hX 69 xnd_WR_goOn_4 (by decide) (by decide) rfl (by decide) ?_
    refine xf_aload_n hX 70 rfl 0 xnd_WR_goOn_69 rfl rfl ?_
    refine xf_V0v hX 73 rfl (xc_evict P _ _ hW.1 hW.2.1) xq_WR_evict xk_WR_59 xrX_WR rfl rfl xnd_WR_goOn_70 ?_
    refine xf_goto hX 101 xnd_WR_goOn_73 (by decide) ?_
    refine xf_vret hX hE xnd_WR_goOn_101 ?_
    refine ⟨rfl, ?_⟩
    simp only [xs_goOn, c4_0, c4_1, c4_2, eq_true c4_3, if_true, if_false]
  by_cases c4_4 : σ.1 16 = 4
  · rw [c4_4]
    refine xf_tabIn hX 76 xnd_WR_goOn_4 (by decide) (by decide) rfl (by decide) ?_
    refine xf_aload_n hX 77 rfl 0 xnd_WR_goOn_76 rfl rfl ?_
    refine xf_V0v hX 80 rfl (xc_seekP P _ _ hW.1) xq_WR_seekPath xk_WR_62 xrX_WR rfl rfl xnd_WR_goOn_77 ?_
    refine xf_goto hX 101 xnd_WR_goOn_80 (by decide) ?_
    refine xf_vret hX hE xnd_WR_goOn_101 ?_
    refine ⟨rfl, ?_⟩
    simp only [xs_goOn, c4_0, c4_1, c4_2, c4_3, eq_true c4_4, if_true, if_false]
  by_cases c4_5 : σ.1 16 = 5
  · rw [c4_5]
    refine xf_tabIn hX 83 xnd_WR_goOn_4 (by decide) (by decide) rfl (by decide) ?_
    refine xf_aload_n hX 84 rfl 0 xnd_WR_goOn_83 rfl rfl ?_
    refine xf_V0v hX 87 rfl (xc_mvOn P _ _ (hW.2.2.2.1 c4_5).1 (hW.2.2.2.1 c4_5).2.1 (hW.2.2.2.1 c4_5).2.2.1 (hW.2.2.2.1 c4_5).2.2.2.1 (hW.2.2.2.1 c4_5).2.2.2.2) xq_WR_moveOn xk_WR_65 xrX_WR rfl rfl xnd_WR_goOn_84 ?_
    refine xf_goto hX 101 xnd_WR_goOn_87 (by decide) ?_
    refine xf_vret hX hE xnd_WR_goOn_101 ?_
    refine ⟨rfl, ?_⟩
    simp only [xs_goOn, c4_0, c4_1, c4_2, c4_3, c4_4, eq_true c4_5, if_true, if_false]
  by_cases c4_6 : σ.1 16 = 6
  · rw [c4_6]
    refine xf_tabIn hX 90 xnd_WR_goOn_4 (by decide) (by decide) rfl (by decide) ?_
    refine xf_aload_n hX 91 rfl 0 xnd_WR_goOn_90 rfl rfl ?_
    refine xf_V0v hX 94 rfl (xc_mvOff P _ _ (hW.2.2.2.2.1 c4_6).1 (hW.2.2.2.2.1 c4_6).2.1 (hW.2.2.2.2.1 c4_6).2.2) xq_WR_moveOff xk_WR_68 xrX_WR rfl rfl xnd_WR_goOn_91 ?_
    refine xf_goto hX 101 xnd_WR_goOn_94 (by decide) ?_
    refine xf_vret hX hE xnd_WR_goOn_101 ?_
    refine ⟨rfl, ?_⟩
    simp only [xs_goOn, c4_0, c4_1, c4_2, c4_3, c4_4, c4_5, eq_true c4_6, if_true, if_false]
  have n0 := lv_neT c4_0 (by decide : ((0 : Int32)).toInt = 0)
  have n1 := lv_neT c4_1 (by decide : ((1 : Int32)).toInt = 1)
  have n2 := lv_neT c4_2 (by decide : ((2 : Int32)).toInt = 2)
  have n3 := lv_neT c4_3 (by decide : ((3 : Int32)).toInt = 3)
  have n4 := lv_neT c4_4 (by decide : ((4 : Int32)).toInt = 4)
  have n5 := lv_neT c4_5 (by decide : ((5 : Int32)).toInt = 5)
  have n6 := lv_neT c4_6 (by decide : ((6 : Int32)).toInt = 6)
  refine xf_tabOut hX 97 xnd_WR_goOn_4 (by omega) (by decide) ?_
  refine xf_aload_n hX 98 rfl 0 xnd_WR_goOn_97 rfl rfl ?_
  refine xf_V0v hX 101 rfl (xc_insK P _ _ hW.1 (hW.2.2.2.2.2 c4_0 c4_1 c4_2 c4_3 c4_4 c4_5 c4_6)) xq_WR_insertKey xk_WR_71 xrX_WR rfl rfl xnd_WR_goOn_98 ?_
  refine xf_vret hX hE xnd_WR_goOn_101 ?_
  refine ⟨rfl, ?_⟩
  simp only [xs_goOn, c4_0, c4_1, c4_2, c4_3, c4_4, c4_5, c4_6, if_true, if_false]

set_option maxRecDepth 100000 in
set_option maxHeartbeats 4000000 in
theorem xc_ruw (P : xw_T) (σ τ : xf_T) (r : Nat) (hr : r < 3) : xf_F (xw_l P) xny_RD_isUnderWay xnc_RD_isUnderWay 1 (some .boolean) 1 22 (xw_W P) (xw_D P) (xw_ty P) [.ref (xw_a P (18 + r))] (σ, τ) (some (.int (xs_isW (σ.1 (24 + 8 * r)) 1 6))) (σ, τ) := by
  refine xf_start (own := xnR_RD) [some (.ref (xw_a P (18 + r)))] rfl (by decide) (Nat.le_of_ble_eq_true rfl) rfl (xf_cat rfl) ?_
  intro X hX hE
  have h9 : r = 0 ∨ r = 1 ∨ r = 2 := by omega
  rcases h9 with rfl | rfl | rfl
  · refine xf_aload_n hX 1 rfl 0 xnd_RD_isUnderWay_0 rfl rfl ?_
    refine xg_RD_state hX 4 rfl hr xk_RD_23 xnd_RD_isUnderWay_1 ?_
    refine xf_iconst hX 5 rfl (1) xnd_RD_isUnderWay_4 (by decide) ?_
    refine xf_bipush hX 7 rfl (6) xnd_RD_isUnderWay_5 (by decide) ?_
    refine xf_T3i hX 10 rfl (xc_isW P _ _ _ _ _) xq_SC_isWithin xk_RD_27 rfl rfl xnd_RD_isUnderWay_7 ?_
    refine xf_zret hX hE xnd_RD_isUnderWay_10 (xs_isW_z _ _ _) ?_
    exact ⟨rfl, rfl⟩
  · refine xf_aload_n hX 1 rfl 0 xnd_RD_isUnderWay_0 rfl rfl ?_
    refine xg_RD_state hX 4 rfl hr xk_RD_23 xnd_RD_isUnderWay_1 ?_
    refine xf_iconst hX 5 rfl (1) xnd_RD_isUnderWay_4 (by decide) ?_
    refine xf_bipush hX 7 rfl (6) xnd_RD_isUnderWay_5 (by decide) ?_
    refine xf_T3i hX 10 rfl (xc_isW P _ _ _ _ _) xq_SC_isWithin xk_RD_27 rfl rfl xnd_RD_isUnderWay_7 ?_
    refine xf_zret hX hE xnd_RD_isUnderWay_10 (xs_isW_z _ _ _) ?_
    exact ⟨rfl, rfl⟩
  · refine xf_aload_n hX 1 rfl 0 xnd_RD_isUnderWay_0 rfl rfl ?_
    refine xg_RD_state hX 4 rfl hr xk_RD_23 xnd_RD_isUnderWay_1 ?_
    refine xf_iconst hX 5 rfl (1) xnd_RD_isUnderWay_4 (by decide) ?_
    refine xf_bipush hX 7 rfl (6) xnd_RD_isUnderWay_5 (by decide) ?_
    refine xf_T3i hX 10 rfl (xc_isW P _ _ _ _ _) xq_SC_isWithin xk_RD_27 rfl rfl xnd_RD_isUnderWay_7 ?_
    refine xf_zret hX hE xnd_RD_isUnderWay_10 (xs_isW_z _ _ _) ?_
    exact ⟨rfl, rfl⟩

set_option maxRecDepth 100000 in
set_option maxHeartbeats 4000000 in
theorem xc_rbegin (P : xw_T) (σ τ : xf_T) (r : Nat) (hr : r < 3) (key : Int32) : xf_F (xw_l P) xny_RD_begin xnc_RD_begin 2 none 0 0 (xw_W P) (xw_D P) (xw_ty P) [.ref (xw_a P (18 + r)), .int key] (σ, τ) none (xf_I (xf_I (xf_I σ (24 + 8 * r + 3) key) (24 + 8 * r + 4) 0) (24 + 8 * r) 1, τ) := by
  refine xf_start (own := xnR_RD) [some (.ref (xw_a P (18 + r))), some (.int key)] rfl (by decide) (Nat.le_of_ble_eq_true rfl) rfl (xf_cat rfl) ?_
  intro X hX hE
  have h9 : r = 0 ∨ r = 1 ∨ r = 2 := by omega
  rcases h9 with rfl | rfl | rfl
  · refine xf_aload_n hX 1 rfl 0 xnd_RD_begin_0 rfl rfl ?_
    refine xf_iload_n hX 2 rfl 1 xnd_RD_begin_1 rfl rfl ?_
    refine xp_RD_key hX 5 rfl hr xk_RD_31 xnd_RD_begin_2 ?_
    refine xf_aload_n hX 6 rfl 0 xnd_RD_begin_5 rfl rfl ?_
    refine xf_iconst hX 7 rfl (0) xnd_RD_begin_6 (by decide) ?_
    refine xp_RD_retries hX 10 rfl hr xk_RD_34 xnd_RD_begin_7 ?_
    refine xf_aload_n hX 11 rfl 0 xnd_RD_begin_10 rfl rfl ?_
    refine xf_iconst hX 12 rfl (1) xnd_RD_begin_11 (by decide) ?_
    refine xp_RD_state hX 15 rfl hr xk_RD_23 xnd_RD_begin_12 ?_
    refine xf_vret hX hE xnd_RD_begin_15 ?_
    exact ⟨rfl, rfl⟩
  · refine xf_aload_n hX 1 rfl 0 xnd_RD_begin_0 rfl rfl ?_
    refine xf_iload_n hX 2 rfl 1 xnd_RD_begin_1 rfl rfl ?_
    refine xp_RD_key hX 5 rfl hr xk_RD_31 xnd_RD_begin_2 ?_
    refine xf_aload_n hX 6 rfl 0 xnd_RD_begin_5 rfl rfl ?_
    refine xf_iconst hX 7 rfl (0) xnd_RD_begin_6 (by decide) ?_
    refine xp_RD_retries hX 10 rfl hr xk_RD_34 xnd_RD_begin_7 ?_
    refine xf_aload_n hX 11 rfl 0 xnd_RD_begin_10 rfl rfl ?_
    refine xf_iconst hX 12 rfl (1) xnd_RD_begin_11 (by decide) ?_
    refine xp_RD_state hX 15 rfl hr xk_RD_23 xnd_RD_begin_12 ?_
    refine xf_vret hX hE xnd_RD_begin_15 ?_
    exact ⟨rfl, rfl⟩
  · refine xf_aload_n hX 1 rfl 0 xnd_RD_begin_0 rfl rfl ?_
    refine xf_iload_n hX 2 rfl 1 xnd_RD_begin_1 rfl rfl ?_
    refine xp_RD_key hX 5 rfl hr xk_RD_31 xnd_RD_begin_2 ?_
    refine xf_aload_n hX 6 rfl 0 xnd_RD_begin_5 rfl rfl ?_
    refine xf_iconst hX 7 rfl (0) xnd_RD_begin_6 (by decide) ?_
    refine xp_RD_retries hX 10 rfl hr xk_RD_34 xnd_RD_begin_7 ?_
    refine xf_aload_n hX 11 rfl 0 xnd_RD_begin_10 rfl rfl ?_
    refine xf_iconst hX 12 rfl (1) xnd_RD_begin_11 (by decide) ?_
    refine xp_RD_state hX 15 rfl hr xk_RD_23 xnd_RD_begin_12 ?_
    refine xf_vret hX hE xnd_RD_begin_15 ?_
    exact ⟨rfl, rfl⟩

set_option maxRecDepth 100000 in
set_option maxHeartbeats 4000000 in
theorem xc_kpV (P : xw_T) (σ τ : xf_T) (r : Nat) (hr : r < 3) : xf_F (xw_l P) xny_RD_keepVersion xnc_RD_keepVersion 1 none 3 61 (xw_W P) (xw_D P) (xw_ty P) [.ref (xw_a P (18 + r))] (σ, τ) none (xs_kpV (24 + 8 * r) σ, τ) := by
  refine xf_start (own := xnR_RD) [some (.ref (xw_a P (18 + r)))] rfl (by decide) (Nat.le_of_ble_eq_true rfl) rfl (xf_cat rfl) ?_
  intro X hX hE
  have h9 : r = 0 ∨ r = 1 ∨ r = 2 := by omega
  rcases h9 with rfl | rfl | rfl
  · refine xf_aload_n hX 1 rfl 0 xnd_RD_keepVersion_0 rfl rfl ?_
    refine xf_aload_n hX 2 rfl 0 xnd_RD_keepVersion_1 rfl rfl ?_
    refine xg_RD_store hX 5 rfl hr xk_RD_9 xnd_RD_keepVersion_2 ?_
    refine xf_aload_n hX 6 rfl 0 xnd_RD_keepVersion_5 rfl rfl ?_
    refine xg_RD_key hX 9 rfl hr xk_RD_31 xnd_RD_keepVersion_6 ?_
    refine xf_V1i hX 12 rfl (xc_versionFor P _ _ _) xq_ST_versionFor xk_RD_60 xrX_ST rfl rfl xnd_RD_keepVersion_9 ?_
    refine xp_RD_keptVersion hX 15 rfl hr xk_RD_65 xnd_RD_keepVersion_12 ?_
    refine xf_aload_n hX 16 rfl 0 xnd_RD_keepVersion_15 rfl rfl ?_
    refine xg_RD_keptVersion hX 19 rfl hr xk_RD_65 xnd_RD_keepVersion_16 ?_
    change xf_V X 19 _ [.int (xs_ver σ (σ.1 (24 + 8 * 0 + 3)))] _
    refine xf_iconst hX 20 rfl (1) xnd_RD_keepVersion_19 (by decide) ?_
    refine xf_iand hX 21 rfl xnd_RD_keepVersion_20 ?_
    refine xf_if_eq hX 24 rfl 40 xnd_RD_keepVersion_21 (by decide) (fun h21 => ?_) (fun h21 => ?_)
    · refine xf_aload_n hX 41 rfl 0 xnd_RD_keepVersion_40 rfl rfl ?_
      refine xf_iconst hX 42 rfl (2) xnd_RD_keepVersion_41 (by decide) ?_
      refine xp_RD_state hX 45 rfl hr xk_RD_23 xnd_RD_keepVersion_42 ?_
      refine xf_vret hX hE xnd_RD_keepVersion_45 ?_
      refine ⟨rfl, ?_⟩
      simp only [xs_kpV, eq_true h21, if_true, if_false]
      try rfl
    · refine xf_aload_n hX 25 rfl 0 xnd_RD_keepVersion_24 rfl rfl ?_
      refine xg_RD_tally hX 28 rfl hr xk_RD_19 xnd_RD_keepVersion_25 ?_
      refine xf_dup hX 29 rfl xnd_RD_keepVersion_28 rfl ?_
      refine xg_TA_waits hX 32 rfl xk_RD_68 xnd_RD_keepVersion_29 ?_
      refine xf_iconst hX 33 rfl (1) xnd_RD_keepVersion_32 (by decide) ?_
      refine xf_iadd hX 34 rfl xnd_RD_keepVersion_33 ?_
      refine xp_TA_waits hX 37 rfl xk_RD_68 xnd_RD_keepVersion_34 ?_
      refine xf_goto hX 45 xnd_RD_keepVersion_37 (by decide) ?_
      refine xf_vret hX hE xnd_RD_keepVersion_45 ?_
      refine ⟨rfl, ?_⟩
      simp only [xs_kpV, h21, if_true, if_false]
      try rfl
  · refine xf_aload_n hX 1 rfl 0 xnd_RD_keepVersion_0 rfl rfl ?_
    refine xf_aload_n hX 2 rfl 0 xnd_RD_keepVersion_1 rfl rfl ?_
    refine xg_RD_store hX 5 rfl hr xk_RD_9 xnd_RD_keepVersion_2 ?_
    refine xf_aload_n hX 6 rfl 0 xnd_RD_keepVersion_5 rfl rfl ?_
    refine xg_RD_key hX 9 rfl hr xk_RD_31 xnd_RD_keepVersion_6 ?_
    refine xf_V1i hX 12 rfl (xc_versionFor P _ _ _) xq_ST_versionFor xk_RD_60 xrX_ST rfl rfl xnd_RD_keepVersion_9 ?_
    refine xp_RD_keptVersion hX 15 rfl hr xk_RD_65 xnd_RD_keepVersion_12 ?_
    refine xf_aload_n hX 16 rfl 0 xnd_RD_keepVersion_15 rfl rfl ?_
    refine xg_RD_keptVersion hX 19 rfl hr xk_RD_65 xnd_RD_keepVersion_16 ?_
    change xf_V X 19 _ [.int (xs_ver σ (σ.1 (24 + 8 * 1 + 3)))] _
    refine xf_iconst hX 20 rfl (1) xnd_RD_keepVersion_19 (by decide) ?_
    refine xf_iand hX 21 rfl xnd_RD_keepVersion_20 ?_
    refine xf_if_eq hX 24 rfl 40 xnd_RD_keepVersion_21 (by decide) (fun h21 => ?_) (fun h21 => ?_)
    · refine xf_aload_n hX 41 rfl 0 xnd_RD_keepVersion_40 rfl rfl ?_
      refine xf_iconst hX 42 rfl (2) xnd_RD_keepVersion_41 (by decide) ?_
      refine xp_RD_state hX 45 rfl hr xk_RD_23 xnd_RD_keepVersion_42 ?_
      refine xf_vret hX hE xnd_RD_keepVersion_45 ?_
      refine ⟨rfl, ?_⟩
      simp only [xs_kpV, eq_true h21, if_true, if_false]
      try rfl
    · refine xf_aload_n hX 25 rfl 0 xnd_RD_keepVersion_24 rfl rfl ?_
      refine xg_RD_tally hX 28 rfl hr xk_RD_19 xnd_RD_keepVersion_25 ?_
      refine xf_dup hX 29 rfl xnd_RD_keepVersion_28 rfl ?_
      refine xg_TA_waits hX 32 rfl xk_RD_68 xnd_RD_keepVersion_29 ?_
      refine xf_iconst hX 33 rfl (1) xnd_RD_keepVersion_32 (by decide) ?_
      refine xf_iadd hX 34 rfl xnd_RD_keepVersion_33 ?_
      refine xp_TA_waits hX 37 rfl xk_RD_68 xnd_RD_keepVersion_34 ?_
      refine xf_goto hX 45 xnd_RD_keepVersion_37 (by decide) ?_
      refine xf_vret hX hE xnd_RD_keepVersion_45 ?_
      refine ⟨rfl, ?_⟩
      simp only [xs_kpV, h21, if_true, if_false]
      try rfl
  · refine xf_aload_n hX 1 rfl 0 xnd_RD_keepVersion_0 rfl rfl ?_
    refine xf_aload_n hX 2 rfl 0 xnd_RD_keepVersion_1 rfl rfl ?_
    refine xg_RD_store hX 5 rfl hr xk_RD_9 xnd_RD_keepVersion_2 ?_
    refine xf_aload_n hX 6 rfl 0 xnd_RD_keepVersion_5 rfl rfl ?_
    refine xg_RD_key hX 9 rfl hr xk_RD_31 xnd_RD_keepVersion_6 ?_
    refine xf_V1i hX 12 rfl (xc_versionFor P _ _ _) xq_ST_versionFor xk_RD_60 xrX_ST rfl rfl xnd_RD_keepVersion_9 ?_
    refine xp_RD_keptVersion hX 15 rfl hr xk_RD_65 xnd_RD_keepVersion_12 ?_
    refine xf_aload_n hX 16 rfl 0 xnd_RD_keepVersion_15 rfl rfl ?_
    refine xg_RD_keptVersion hX 19 rfl hr xk_RD_65 xnd_RD_keepVersion_16 ?_
    change xf_V X 19 _ [.int (xs_ver σ (σ.1 (24 + 8 * 2 + 3)))] _
    refine xf_iconst hX 20 rfl (1) xnd_RD_keepVersion_19 (by decide) ?_
    refine xf_iand hX 21 rfl xnd_RD_keepVersion_20 ?_
    refine xf_if_eq hX 24 rfl 40 xnd_RD_keepVersion_21 (by decide) (fun h21 => ?_) (fun h21 => ?_)
    · refine xf_aload_n hX 41 rfl 0 xnd_RD_keepVersion_40 rfl rfl ?_
      refine xf_iconst hX 42 rfl (2) xnd_RD_keepVersion_41 (by decide) ?_
      refine xp_RD_state hX 45 rfl hr xk_RD_23 xnd_RD_keepVersion_42 ?_
      refine xf_vret hX hE xnd_RD_keepVersion_45 ?_
      refine ⟨rfl, ?_⟩
      simp only [xs_kpV, eq_true h21, if_true, if_false]
      try rfl
    · refine xf_aload_n hX 25 rfl 0 xnd_RD_keepVersion_24 rfl rfl ?_
      refine xg_RD_tally hX 28 rfl hr xk_RD_19 xnd_RD_keepVersion_25 ?_
      refine xf_dup hX 29 rfl xnd_RD_keepVersion_28 rfl ?_
      refine xg_TA_waits hX 32 rfl xk_RD_68 xnd_RD_keepVersion_29 ?_
      refine xf_iconst hX 33 rfl (1) xnd_RD_keepVersion_32 (by decide) ?_
      refine xf_iadd hX 34 rfl xnd_RD_keepVersion_33 ?_
      refine xp_TA_waits hX 37 rfl xk_RD_68 xnd_RD_keepVersion_34 ?_
      refine xf_goto hX 45 xnd_RD_keepVersion_37 (by decide) ?_
      refine xf_vret hX hE xnd_RD_keepVersion_45 ?_
      refine ⟨rfl, ?_⟩
      simp only [xs_kpV, h21, if_true, if_false]
      try rfl

set_option maxRecDepth 100000 in
set_option maxHeartbeats 4000000 in
theorem xc_into (P : xw_T) (σ τ : xf_T) (r : Nat) (hr : r < 3) (b s : Int32) (ho : xs_okP (xw_n P) (xw_w P) σ) (hb : ∃ j, j < 8 ∧ b = nI j) : xf_F (xw_l P) xny_RD_lookInto xnc_RD_lookInto 4 none 3 65 (xw_W P) (xw_D P) (xw_ty P) [.ref (xw_a P (18 + r)), .int b, .int s] (σ, τ) none (xs_into (xw_w P) (24 + 8 * r) σ b s, τ) := by
  refine xf_start (own := xnR_RD) [some (.ref (xw_a P (18 + r))), some (.int b), some (.int s), none] rfl (by decide) (Nat.le_of_ble_eq_true rfl) rfl (xf_cat rfl) ?_
  intro X hX hE
  have h9 : r = 0 ∨ r = 1 ∨ r = 2 := by omega
  rcases h9 with rfl | rfl | rfl
  · refine xf_aload_n hX 1 rfl 0 xnd_RD_lookInto_0 rfl rfl ?_
    refine xg_RD_store hX 4 rfl hr xk_RD_9 xnd_RD_lookInto_1 ?_
    refine xf_iload_n hX 5 rfl 1 xnd_RD_lookInto_4 rfl rfl ?_
    refine xf_aload_n hX 6 rfl 0 xnd_RD_lookInto_5 rfl rfl ?_
    refine xg_RD_key hX 9 rfl hr xk_RD_31 xnd_RD_lookInto_6 ?_
    refine xf_V2i hX 12 rfl (xc_lkIn P _ _ _ _ ho hb) xq_ST_lookUpIn xk_RD_73 xrX_ST rfl rfl xnd_RD_lookInto_9 ?_
    refine xf_istore_n hX 13 rfl 3 xnd_RD_lookInto_12 rfl (by decide) ?_
    dsimp only [List.set]
    refine xf_aload_n hX 14 rfl 0 xnd_RD_lookInto_13 rfl rfl ?_
    refine xf_iload_n hX 15 rfl 3 xnd_RD_lookInto_14 rfl rfl ?_
    refine xf_iconst hX 16 rfl (-1) xnd_RD_lookInto_15 (by decide) ?_
    refine xf_icmp_eq hX 19 rfl 31 xnd_RD_lookInto_16 (by decide) (fun h16 => ?_) (fun h16 => ?_)
    · refine xf_iconst hX 32 rfl (-1) xnd_RD_lookInto_31 (by decide) ?_
      refine xp_RD_keptItem hX 35 rfl hr xk_RD_81 xnd_RD_lookInto_32 ?_
      refine xf_aload_n hX 36 rfl 0 xnd_RD_lookInto_35 rfl rfl ?_
      refine xf_iload_n hX 37 rfl 3 xnd_RD_lookInto_36 rfl rfl ?_
      refine xf_iconst hX 38 rfl (-1) xnd_RD_lookInto_37 (by decide) ?_
      refine xf_icmp_eq hX 41 rfl 45 xnd_RD_lookInto_38 (by decide) (fun h38 => ?_) (fun h38 => ?_)
      · refine xf_iload_n hX 46 rfl 2 xnd_RD_lookInto_45 rfl rfl ?_
        refine xp_RD_state hX 49 rfl hr xk_RD_23 xnd_RD_lookInto_46 ?_
        refine xf_vret hX hE xnd_RD_lookInto_49 ?_
        first | exact absurd h16 h38 | exact absurd h38 h16 | (refine ⟨rfl, ?_⟩; simp only [xs_into, eq_true h16, eq_true h38, if_true, if_false]; try rfl)
      · refine xf_iconst hX 42 rfl (4) xnd_RD_lookInto_41 (by decide) ?_
        refine xf_goto hX 46 xnd_RD_lookInto_42 (by decide) ?_
        refine xp_RD_state hX 49 rfl hr xk_RD_23 xnd_RD_lookInto_46 ?_
        refine xf_vret hX hE xnd_RD_lookInto_49 ?_
        first | exact absurd h16 h38 | exact absurd h38 h16 | (refine ⟨rfl, ?_⟩; simp only [xs_into, eq_true h16, h38, if_true, if_false]; try rfl)
    · refine xf_aload_n hX 20 rfl 0 xnd_RD_lookInto_19 rfl rfl ?_
      refine xg_RD_store hX 23 rfl hr xk_RD_9 xnd_RD_lookInto_20 ?_
      refine xg_ST_places hX 26 rfl xk_RD_77 xnd_RD_lookInto_23 ?_
      refine xf_iload_n hX 27 rfl 3 xnd_RD_lookInto_26 rfl rfl ?_
      refine xaX_iaload hX 28 rfl rfl ((ho.fIn hb _).resolve_left h16) xnd_RD_lookInto_27 ?_
      refine xf_goto hX 32 xnd_RD_lookInto_28 (by decide) ?_
      refine xp_RD_keptItem hX 35 rfl hr xk_RD_81 xnd_RD_lookInto_32 ?_
      refine xf_aload_n hX 36 rfl 0 xnd_RD_lookInto_35 rfl rfl ?_
      refine xf_iload_n hX 37 rfl 3 xnd_RD_lookInto_36 rfl rfl ?_
      refine xf_iconst hX 38 rfl (-1) xnd_RD_lookInto_37 (by decide) ?_
      refine xf_icmp_eq hX 41 rfl 45 xnd_RD_lookInto_38 (by decide) (fun h38 => ?_) (fun h38 => ?_)
      · refine xf_iload_n hX 46 rfl 2 xnd_RD_lookInto_45 rfl rfl ?_
        refine xp_RD_state hX 49 rfl hr xk_RD_23 xnd_RD_lookInto_46 ?_
        refine xf_vret hX hE xnd_RD_lookInto_49 ?_
        first | exact absurd h16 h38 | exact absurd h38 h16 | (refine ⟨rfl, ?_⟩; simp only [xs_into, h16, eq_true h38, if_true, if_false]; try rfl)
      · refine xf_iconst hX 42 rfl (4) xnd_RD_lookInto_41 (by decide) ?_
        refine xf_goto hX 46 xnd_RD_lookInto_42 (by decide) ?_
        refine xp_RD_state hX 49 rfl hr xk_RD_23 xnd_RD_lookInto_46 ?_
        refine xf_vret hX hE xnd_RD_lookInto_49 ?_
        first | exact absurd h16 h38 | exact absurd h38 h16 | (refine ⟨rfl, ?_⟩; simp only [xs_into, h16, h38, if_true, if_false]; try rfl)
  · refine xf_aload_n hX 1 rfl 0 xnd_RD_lookInto_0 rfl rfl ?_
    refine xg_RD_store hX 4 rfl hr xk_RD_9 xnd_RD_lookInto_1 ?_
    refine xf_iload_n hX 5 rfl 1 xnd_RD_lookInto_4 rfl rfl ?_
    refine xf_aload_n hX 6 rfl 0 xnd_RD_lookInto_5 rfl rfl ?_
    refine xg_RD_key hX 9 rfl hr xk_RD_31 xnd_RD_lookInto_6 ?_
    refine xf_V2i hX 12 rfl (xc_lkIn P _ _ _ _ ho hb) xq_ST_lookUpIn xk_RD_73 xrX_ST rfl rfl xnd_RD_lookInto_9 ?_
    refine xf_istore_n hX 13 rfl 3 xnd_RD_lookInto_12 rfl (by decide) ?_
    dsimp only [List.set]
    refine xf_aload_n hX 14 rfl 0 xnd_RD_lookInto_13 rfl rfl ?_
    refine xf_iload_n hX 15 rfl 3 xnd_RD_lookInto_14 rfl rfl ?_
    refine xf_iconst hX 16 rfl (-1) xnd_RD_lookInto_15 (by decide) ?_
    refine xf_icmp_eq hX 19 rfl 31 xnd_RD_lookInto_16 (by decide) (fun h16 => ?_) (fun h16 => ?_)
    · refine xf_iconst hX 32 rfl (-1) xnd_RD_lookInto_31 (by decide) ?_
      refine xp_RD_keptItem hX 35 rfl hr xk_RD_81 xnd_RD_lookInto_32 ?_
      refine xf_aload_n hX 36 rfl 0 xnd_RD_lookInto_35 rfl rfl ?_
      refine xf_iload_n hX 37 rfl 3 xnd_RD_lookInto_36 rfl rfl ?_
      refine xf_iconst hX 38 rfl (-1) xnd_RD_lookInto_37 (by decide) ?_
      refine xf_icmp_eq hX 41 rfl 45 xnd_RD_lookInto_38 (by decide) (fun h38 => ?_) (fun h38 => ?_)
      · refine xf_iload_n hX 46 rfl 2 xnd_RD_lookInto_45 rfl rfl ?_
        refine xp_RD_state hX 49 rfl hr xk_RD_23 xnd_RD_lookInto_46 ?_
        refine xf_vret hX hE xnd_RD_lookInto_49 ?_
        first | exact absurd h16 h38 | exact absurd h38 h16 | (refine ⟨rfl, ?_⟩; simp only [xs_into, eq_true h16, eq_true h38, if_true, if_false]; try rfl)
      · refine xf_iconst hX 42 rfl (4) xnd_RD_lookInto_41 (by decide) ?_
        refine xf_goto hX 46 xnd_RD_lookInto_42 (by decide) ?_
        refine xp_RD_state hX 49 rfl hr xk_RD_23 xnd_RD_lookInto_46 ?_
        refine xf_vret hX hE xnd_RD_lookInto_49 ?_
        first | exact absurd h16 h38 | exact absurd h38 h16 | (refine ⟨rfl, ?_⟩; simp only [xs_into, eq_true h16, h38, if_true, if_false]; try rfl)
    · refine xf_aload_n hX 20 rfl 0 xnd_RD_lookInto_19 rfl rfl ?_
      refine xg_RD_store hX 23 rfl hr xk_RD_9 xnd_RD_lookInto_20 ?_
      refine xg_ST_places hX 26 rfl xk_RD_77 xnd_RD_lookInto_23 ?_
      refine xf_iload_n hX 27 rfl 3 xnd_RD_lookInto_26 rfl rfl ?_
      refine xaX_iaload hX 28 rfl rfl ((ho.fIn hb _).resolve_left h16) xnd_RD_lookInto_27 ?_
      refine xf_goto hX 32 xnd_RD_lookInto_28 (by decide) ?_
      refine xp_RD_keptItem hX 35 rfl hr xk_RD_81 xnd_RD_lookInto_32 ?_
      refine xf_aload_n hX 36 rfl 0 xnd_RD_lookInto_35 rfl rfl ?_
      refine xf_iload_n hX 37 rfl 3 xnd_RD_lookInto_36 rfl rfl ?_
      refine xf_iconst hX 38 rfl (-1) xnd_RD_lookInto_37 (by decide) ?_
      refine xf_icmp_eq hX 41 rfl 45 xnd_RD_lookInto_38 (by decide) (fun h38 => ?_) (fun h38 => ?_)
      · refine xf_iload_n hX 46 rfl 2 xnd_RD_lookInto_45 rfl rfl ?_
        refine xp_RD_state hX 49 rfl hr xk_RD_23 xnd_RD_lookInto_46 ?_
        refine xf_vret hX hE xnd_RD_lookInto_49 ?_
        first | exact absurd h16 h38 | exact absurd h38 h16 | (refine ⟨rfl, ?_⟩; simp only [xs_into, h16, eq_true h38, if_true, if_false]; try rfl)
      · refine xf_iconst hX 42 rfl (4) xnd_RD_lookInto_41 (by decide) ?_
        refine xf_goto hX 46 xnd_RD_lookInto_42 (by decide) ?_
        refine xp_RD_state hX 49 rfl hr xk_RD_23 xnd_RD_lookInto_46 ?_
        refine xf_vret hX hE xnd_RD_lookInto_49 ?_
        first | exact absurd h16 h38 | exact absurd h38 h16 | (refine ⟨rfl, ?_⟩; simp only [xs_into, h16, h38, if_true, if_false]; try rfl)
  · refine xf_aload_n hX 1 rfl 0 xnd_RD_lookInto_0 rfl rfl ?_
    refine xg_RD_store hX 4 rfl hr xk_RD_9 xnd_RD_lookInto_1 ?_
    refine xf_iload_n hX 5 rfl 1 xnd_RD_lookInto_4 rfl rfl ?_
    refine xf_aload_n hX 6 rfl 0 xnd_RD_lookInto_5 rfl rfl ?_
    refine xg_RD_key hX 9 rfl hr xk_RD_31 xnd_RD_lookInto_6 ?_
    refine xf_V2i hX 12 rfl (xc_lkIn P _ _ _ _ ho hb) xq_ST_lookUpIn xk_RD_73 xrX_ST rfl rfl xnd_RD_lookInto_9 ?_
    refine xf_istore_n hX 13 rfl 3 xnd_RD_lookInto_12 rfl (by decide) ?_
    dsimp only [List.set]
    refine xf_aload_n hX 14 rfl 0 xnd_RD_lookInto_13 rfl rfl ?_
    refine xf_iload_n hX 15 rfl 3 xnd_RD_lookInto_14 rfl rfl ?_
    refine xf_iconst hX 16 rfl (-1) xnd_RD_lookInto_15 (by decide) ?_
    refine xf_icmp_eq hX 19 rfl 31 xnd_RD_lookInto_16 (by decide) (fun h16 => ?_) (fun h16 => ?_)
    · refine xf_iconst hX 32 rfl (-1) xnd_RD_lookInto_31 (by decide) ?_
      refine xp_RD_keptItem hX 35 rfl hr xk_RD_81 xnd_RD_lookInto_32 ?_
      refine xf_aload_n hX 36 rfl 0 xnd_RD_lookInto_35 rfl rfl ?_
      refine xf_iload_n hX 37 rfl 3 xnd_RD_lookInto_36 rfl rfl ?_
      refine xf_iconst hX 38 rfl (-1) xnd_RD_lookInto_37 (by decide) ?_
      refine xf_icmp_eq hX 41 rfl 45 xnd_RD_lookInto_38 (by decide) (fun h38 => ?_) (fun h38 => ?_)
      · refine xf_iload_n hX 46 rfl 2 xnd_RD_lookInto_45 rfl rfl ?_
        refine xp_RD_state hX 49 rfl hr xk_RD_23 xnd_RD_lookInto_46 ?_
        refine xf_vret hX hE xnd_RD_lookInto_49 ?_
        first | exact absurd h16 h38 | exact absurd h38 h16 | (refine ⟨rfl, ?_⟩; simp only [xs_into, eq_true h16, eq_true h38, if_true, if_false]; try rfl)
      · refine xf_iconst hX 42 rfl (4) xnd_RD_lookInto_41 (by decide) ?_
        refine xf_goto hX 46 xnd_RD_lookInto_42 (by decide) ?_
        refine xp_RD_state hX 49 rfl hr xk_RD_23 xnd_RD_lookInto_46 ?_
        refine xf_vret hX hE xnd_RD_lookInto_49 ?_
        first | exact absurd h16 h38 | exact absurd h38 h16 | (refine ⟨rfl, ?_⟩; simp only [xs_into, eq_true h16, h38, if_true, if_false]; try rfl)
    · refine xf_aload_n hX 20 rfl 0 xnd_RD_lookInto_19 rfl rfl ?_
      refine xg_RD_store hX 23 rfl hr xk_RD_9 xnd_RD_lookInto_20 ?_
      refine xg_ST_places hX 26 rfl xk_RD_77 xnd_RD_lookInto_23 ?_
      refine xf_iload_n hX 27 rfl 3 xnd_RD_lookInto_26 rfl rfl ?_
      refine xaX_iaload hX 28 rfl rfl ((ho.fIn hb _).resolve_left h16) xnd_RD_lookInto_27 ?_
      refine xf_goto hX 32 xnd_RD_lookInto_28 (by decide) ?_
      refine xp_RD_keptItem hX 35 rfl hr xk_RD_81 xnd_RD_lookInto_32 ?_
      refine xf_aload_n hX 36 rfl 0 xnd_RD_lookInto_35 rfl rfl ?_
      refine xf_iload_n hX 37 rfl 3 xnd_RD_lookInto_36 rfl rfl ?_
      refine xf_iconst hX 38 rfl (-1) xnd_RD_lookInto_37 (by decide) ?_
      refine xf_icmp_eq hX 41 rfl 45 xnd_RD_lookInto_38 (by decide) (fun h38 => ?_) (fun h38 => ?_)
      · refine xf_iload_n hX 46 rfl 2 xnd_RD_lookInto_45 rfl rfl ?_
        refine xp_RD_state hX 49 rfl hr xk_RD_23 xnd_RD_lookInto_46 ?_
        refine xf_vret hX hE xnd_RD_lookInto_49 ?_
        first | exact absurd h16 h38 | exact absurd h38 h16 | (refine ⟨rfl, ?_⟩; simp only [xs_into, h16, eq_true h38, if_true, if_false]; try rfl)
      · refine xf_iconst hX 42 rfl (4) xnd_RD_lookInto_41 (by decide) ?_
        refine xf_goto hX 46 xnd_RD_lookInto_42 (by decide) ?_
        refine xp_RD_state hX 49 rfl hr xk_RD_23 xnd_RD_lookInto_46 ?_
        refine xf_vret hX hE xnd_RD_lookInto_49 ?_
        first | exact absurd h16 h38 | exact absurd h38 h16 | (refine ⟨rfl, ?_⟩; simp only [xs_into, h16, h38, if_true, if_false]; try rfl)

set_option maxRecDepth 100000 in
set_option maxHeartbeats 4000000 in
theorem xc_copy (P : xw_T) (σ τ : xf_T) (r : Nat) (hr : r < 3) (hi : vp_in (σ.1 (24 + 8 * r + 6)) (xw_n P)) : xf_F (xw_l P) xny_RD_copyItem xnc_RD_copyItem 1 none 0 0 (xw_W P) (xw_D P) (xw_ty P) [.ref (xw_a P (18 + r))] (σ, τ) none (xs_copy (24 + 8 * r) σ, τ) := by
  refine xf_start (own := xnR_RD) [some (.ref (xw_a P (18 + r)))] rfl (by decide) (Nat.le_of_ble_eq_true rfl) rfl (xf_cat rfl) ?_
  intro X hX hE
  have h9 : r = 0 ∨ r = 1 ∨ r = 2 := by omega
  rcases h9 with rfl | rfl | rfl
  · refine xf_aload_n hX 1 rfl 0 xnd_RD_copyItem_0 rfl rfl ?_
    refine xf_aload_n hX 2 rfl 0 xnd_RD_copyItem_1 rfl rfl ?_
    refine xg_RD_store hX 5 rfl hr xk_RD_9 xnd_RD_copyItem_2 ?_
    refine xg_ST_values hX 8 rfl xk_RD_84 xnd_RD_copyItem_5 ?_
    refine xf_aload_n hX 9 rfl 0 xnd_RD_copyItem_8 rfl rfl ?_
    refine xg_RD_keptItem hX 12 rfl hr xk_RD_81 xnd_RD_copyItem_9 ?_
    refine xaX_iaload hX 13 rfl rfl hi xnd_RD_copyItem_12 ?_
    refine xp_RD_copiedValue hX 16 rfl hr xk_RD_87 xnd_RD_copyItem_13 ?_
    refine xf_aload_n hX 17 rfl 0 xnd_RD_copyItem_16 rfl rfl ?_
    refine xf_aload_n hX 18 rfl 0 xnd_RD_copyItem_17 rfl rfl ?_
    refine xg_RD_store hX 21 rfl hr xk_RD_9 xnd_RD_copyItem_18 ?_
    refine xg_ST_tokens hX 24 rfl xk_RD_90 xnd_RD_copyItem_21 ?_
    refine xf_aload_n hX 25 rfl 0 xnd_RD_copyItem_24 rfl rfl ?_
    refine xg_RD_keptItem hX 28 rfl hr xk_RD_81 xnd_RD_copyItem_25 ?_
    refine xaX_iaload hX 29 rfl rfl hi xnd_RD_copyItem_28 ?_
    refine xp_RD_copiedToken hX 32 rfl hr xk_RD_93 xnd_RD_copyItem_29 ?_
    refine xf_aload_n hX 33 rfl 0 xnd_RD_copyItem_32 rfl rfl ?_
    refine xf_aload_n hX 34 rfl 0 xnd_RD_copyItem_33 rfl rfl ?_
    refine xg_RD_store hX 37 rfl hr xk_RD_9 xnd_RD_copyItem_34 ?_
    refine xg_ST_expiries hX 40 rfl xk_RD_96 xnd_RD_copyItem_37 ?_
    refine xf_aload_n hX 41 rfl 0 xnd_RD_copyItem_40 rfl rfl ?_
    refine xg_RD_keptItem hX 44 rfl hr xk_RD_81 xnd_RD_copyItem_41 ?_
    refine xaX_iaload hX 45 rfl rfl hi xnd_RD_copyItem_44 ?_
    refine xp_RD_copiedExpiry hX 48 rfl hr xk_RD_99 xnd_RD_copyItem_45 ?_
    refine xf_vret hX hE xnd_RD_copyItem_48 ?_
    exact ⟨rfl, rfl⟩
  · refine xf_aload_n hX 1 rfl 0 xnd_RD_copyItem_0 rfl rfl ?_
    refine xf_aload_n hX 2 rfl 0 xnd_RD_copyItem_1 rfl rfl ?_
    refine xg_RD_store hX 5 rfl hr xk_RD_9 xnd_RD_copyItem_2 ?_
    refine xg_ST_values hX 8 rfl xk_RD_84 xnd_RD_copyItem_5 ?_
    refine xf_aload_n hX 9 rfl 0 xnd_RD_copyItem_8 rfl rfl ?_
    refine xg_RD_keptItem hX 12 rfl hr xk_RD_81 xnd_RD_copyItem_9 ?_
    refine xaX_iaload hX 13 rfl rfl hi xnd_RD_copyItem_12 ?_
    refine xp_RD_copiedValue hX 16 rfl hr xk_RD_87 xnd_RD_copyItem_13 ?_
    refine xf_aload_n hX 17 rfl 0 xnd_RD_copyItem_16 rfl rfl ?_
    refine xf_aload_n hX 18 rfl 0 xnd_RD_copyItem_17 rfl rfl ?_
    refine xg_RD_store hX 21 rfl hr xk_RD_9 xnd_RD_copyItem_18 ?_
    refine xg_ST_tokens hX 24 rfl xk_RD_90 xnd_RD_copyItem_21 ?_
    refine xf_aload_n hX 25 rfl 0 xnd_RD_copyItem_24 rfl rfl ?_
    refine xg_RD_keptItem hX 28 rfl hr xk_RD_81 xnd_RD_copyItem_25 ?_
    refine xaX_iaload hX 29 rfl rfl hi xnd_RD_copyItem_28 ?_
    refine xp_RD_copiedToken hX 32 rfl hr xk_RD_93 xnd_RD_copyItem_29 ?_
    refine xf_aload_n hX 33 rfl 0 xnd_RD_copyItem_32 rfl rfl ?_
    refine xf_aload_n hX 34 rfl 0 xnd_RD_copyItem_33 rfl rfl ?_
    refine xg_RD_store hX 37 rfl hr xk_RD_9 xnd_RD_copyItem_34 ?_
    refine xg_ST_expiries hX 40 rfl xk_RD_96 xnd_RD_copyItem_37 ?_
    refine xf_aload_n hX 41 rfl 0 xnd_RD_copyItem_40 rfl rfl ?_
    refine xg_RD_keptItem hX 44 rfl hr xk_RD_81 xnd_RD_copyItem_41 ?_
    refine xaX_iaload hX 45 rfl rfl hi xnd_RD_copyItem_44 ?_
    refine xp_RD_copiedExpiry hX 48 rfl hr xk_RD_99 xnd_RD_copyItem_45 ?_
    refine xf_vret hX hE xnd_RD_copyItem_48 ?_
    exact ⟨rfl, rfl⟩
  · refine xf_aload_n hX 1 rfl 0 xnd_RD_copyItem_0 rfl rfl ?_
    refine xf_aload_n hX 2 rfl 0 xnd_RD_copyItem_1 rfl rfl ?_
    refine xg_RD_store hX 5 rfl hr xk_RD_9 xnd_RD_copyItem_2 ?_
    refine xg_ST_values hX 8 rfl xk_RD_84 xnd_RD_copyItem_5 ?_
    refine xf_aload_n hX 9 rfl 0 xnd_RD_copyItem_8 rfl rfl ?_
    refine xg_RD_keptItem hX 12 rfl hr xk_RD_81 xnd_RD_copyItem_9 ?_
    refine xaX_iaload hX 13 rfl rfl hi xnd_RD_copyItem_12 ?_
    refine xp_RD_copiedValue hX 16 rfl hr xk_RD_87 xnd_RD_copyItem_13 ?_
    refine xf_aload_n hX 17 rfl 0 xnd_RD_copyItem_16 rfl rfl ?_
    refine xf_aload_n hX 18 rfl 0 xnd_RD_copyItem_17 rfl rfl ?_
    refine xg_RD_store hX 21 rfl hr xk_RD_9 xnd_RD_copyItem_18 ?_
    refine xg_ST_tokens hX 24 rfl xk_RD_90 xnd_RD_copyItem_21 ?_
    refine xf_aload_n hX 25 rfl 0 xnd_RD_copyItem_24 rfl rfl ?_
    refine xg_RD_keptItem hX 28 rfl hr xk_RD_81 xnd_RD_copyItem_25 ?_
    refine xaX_iaload hX 29 rfl rfl hi xnd_RD_copyItem_28 ?_
    refine xp_RD_copiedToken hX 32 rfl hr xk_RD_93 xnd_RD_copyItem_29 ?_
    refine xf_aload_n hX 33 rfl 0 xnd_RD_copyItem_32 rfl rfl ?_
    refine xf_aload_n hX 34 rfl 0 xnd_RD_copyItem_33 rfl rfl ?_
    refine xg_RD_store hX 37 rfl hr xk_RD_9 xnd_RD_copyItem_34 ?_
    refine xg_ST_expiries hX 40 rfl xk_RD_96 xnd_RD_copyItem_37 ?_
    refine xf_aload_n hX 41 rfl 0 xnd_RD_copyItem_40 rfl rfl ?_
    refine xg_RD_keptItem hX 44 rfl hr xk_RD_81 xnd_RD_copyItem_41 ?_
    refine xaX_iaload hX 45 rfl rfl hi xnd_RD_copyItem_44 ?_
    refine xp_RD_copiedExpiry hX 48 rfl hr xk_RD_99 xnd_RD_copyItem_45 ?_
    refine xf_vret hX hE xnd_RD_copyItem_48 ?_
    exact ⟨rfl, rfl⟩

set_option maxRecDepth 100000 in
set_option maxHeartbeats 4000000 in
theorem xc_endR (P : xw_T) (σ τ : xf_T) (r : Nat) (hr : r < 3) (hit : Int32) (hi : ¬ hit = 0 → vp_in (σ.1 (24 + 8 * r + 6)) (xw_n P)) : xf_F (xw_l P) xny_RD_end xnc_RD_end 2 none 0 0 (xw_W P) (xw_D P) (xw_ty P) [.ref (xw_a P (18 + r)), .int hit] (σ, τ) none (xs_endR (24 + 8 * r) σ hit, τ) := by
  refine xf_start (own := xnR_RD) [some (.ref (xw_a P (18 + r))), some (.int hit)] rfl (by decide) (Nat.le_of_ble_eq_true rfl) rfl (xf_cat rfl) ?_
  intro X hX hE
  have h9 : r = 0 ∨ r = 1 ∨ r = 2 := by omega
  rcases h9 with rfl | rfl | rfl
  · refine xf_iload_n hX 1 rfl 1 xnd_RD_end_0 rfl rfl ?_
    refine xf_if_eq hX 4 rfl 17 xnd_RD_end_1 (by decide) (fun h1 => ?_) (fun h1 => ?_)
    · refine xf_aload_n hX 18 rfl 0 xnd_RD_end_17 rfl rfl ?_
      refine xf_iload_n hX 19 rfl 1 xnd_RD_end_18 rfl rfl ?_
      refine xf_if_eq hX 22 rfl 27 xnd_RD_end_19 (by decide) (fun h19 => ?_) (fun h19 => ?_)
      · refine xf_bipush hX 29 rfl (8) xnd_RD_end_27 (by decide) ?_
        refine xp_RD_state hX 32 rfl hr xk_RD_23 xnd_RD_end_29 ?_
        refine xf_vret hX hE xnd_RD_end_32 ?_
        first | exact absurd h1 h19 | exact absurd h19 h1 | (refine ⟨rfl, ?_⟩; simp only [xs_endR, eq_true h1, eq_true h19, if_true, if_false]; try rfl)
      · refine xf_bipush hX 24 rfl (7) xnd_RD_end_22 (by decide) ?_
        refine xf_goto hX 29 xnd_RD_end_24 (by decide) ?_
        refine xp_RD_state hX 32 rfl hr xk_RD_23 xnd_RD_end_29 ?_
        refine xf_vret hX hE xnd_RD_end_32 ?_
        first | exact absurd h1 h19 | exact absurd h19 h1 | (refine ⟨rfl, ?_⟩; simp only [xs_endR, eq_true h1, h19, if_true, if_false]; try rfl)
    · refine xf_aload_n hX 5 rfl 0 xnd_RD_end_4 rfl rfl ?_
      refine xg_RD_store hX 8 rfl hr xk_RD_9 xnd_RD_end_5 ?_
      refine xg_ST_bits hX 11 rfl xk_RD_120 xnd_RD_end_8 ?_
      refine xf_aload_n hX 12 rfl 0 xnd_RD_end_11 rfl rfl ?_
      refine xg_RD_keptItem hX 15 rfl hr xk_RD_81 xnd_RD_end_12 ?_
      refine xf_iconst hX 16 rfl (1) xnd_RD_end_15 (by decide) ?_
      refine xaX_bastore hX 17 rfl rfl (hi h1) rfl xnd_RD_end_16 ?_
      refine xf_aload_n hX 18 rfl 0 xnd_RD_end_17 rfl rfl ?_
      refine xf_iload_n hX 19 rfl 1 xnd_RD_end_18 rfl rfl ?_
      refine xf_if_eq hX 22 rfl 27 xnd_RD_end_19 (by decide) (fun h19 => ?_) (fun h19 => ?_)
      · refine xf_bipush hX 29 rfl (8) xnd_RD_end_27 (by decide) ?_
        refine xp_RD_state hX 32 rfl hr xk_RD_23 xnd_RD_end_29 ?_
        refine xf_vret hX hE xnd_RD_end_32 ?_
        first | exact absurd h1 h19 | exact absurd h19 h1 | (refine ⟨rfl, ?_⟩; simp only [xs_endR, h1, eq_true h19, if_true, if_false]; try rfl)
      · refine xf_bipush hX 24 rfl (7) xnd_RD_end_22 (by decide) ?_
        refine xf_goto hX 29 xnd_RD_end_24 (by decide) ?_
        refine xp_RD_state hX 32 rfl hr xk_RD_23 xnd_RD_end_29 ?_
        refine xf_vret hX hE xnd_RD_end_32 ?_
        first | exact absurd h1 h19 | exact absurd h19 h1 | (refine ⟨rfl, ?_⟩; simp only [xs_endR, h1, h19, if_true, if_false]; try rfl)
  · refine xf_iload_n hX 1 rfl 1 xnd_RD_end_0 rfl rfl ?_
    refine xf_if_eq hX 4 rfl 17 xnd_RD_end_1 (by decide) (fun h1 => ?_) (fun h1 => ?_)
    · refine xf_aload_n hX 18 rfl 0 xnd_RD_end_17 rfl rfl ?_
      refine xf_iload_n hX 19 rfl 1 xnd_RD_end_18 rfl rfl ?_
      refine xf_if_eq hX 22 rfl 27 xnd_RD_end_19 (by decide) (fun h19 => ?_) (fun h19 => ?_)
      · refine xf_bipush hX 29 rfl (8) xnd_RD_end_27 (by decide) ?_
        refine xp_RD_state hX 32 rfl hr xk_RD_23 xnd_RD_end_29 ?_
        refine xf_vret hX hE xnd_RD_end_32 ?_
        first | exact absurd h1 h19 | exact absurd h19 h1 | (refine ⟨rfl, ?_⟩; simp only [xs_endR, eq_true h1, eq_true h19, if_true, if_false]; try rfl)
      · refine xf_bipush hX 24 rfl (7) xnd_RD_end_22 (by decide) ?_
        refine xf_goto hX 29 xnd_RD_end_24 (by decide) ?_
        refine xp_RD_state hX 32 rfl hr xk_RD_23 xnd_RD_end_29 ?_
        refine xf_vret hX hE xnd_RD_end_32 ?_
        first | exact absurd h1 h19 | exact absurd h19 h1 | (refine ⟨rfl, ?_⟩; simp only [xs_endR, eq_true h1, h19, if_true, if_false]; try rfl)
    · refine xf_aload_n hX 5 rfl 0 xnd_RD_end_4 rfl rfl ?_
      refine xg_RD_store hX 8 rfl hr xk_RD_9 xnd_RD_end_5 ?_
      refine xg_ST_bits hX 11 rfl xk_RD_120 xnd_RD_end_8 ?_
      refine xf_aload_n hX 12 rfl 0 xnd_RD_end_11 rfl rfl ?_
      refine xg_RD_keptItem hX 15 rfl hr xk_RD_81 xnd_RD_end_12 ?_
      refine xf_iconst hX 16 rfl (1) xnd_RD_end_15 (by decide) ?_
      refine xaX_bastore hX 17 rfl rfl (hi h1) rfl xnd_RD_end_16 ?_
      refine xf_aload_n hX 18 rfl 0 xnd_RD_end_17 rfl rfl ?_
      refine xf_iload_n hX 19 rfl 1 xnd_RD_end_18 rfl rfl ?_
      refine xf_if_eq hX 22 rfl 27 xnd_RD_end_19 (by decide) (fun h19 => ?_) (fun h19 => ?_)
      · refine xf_bipush hX 29 rfl (8) xnd_RD_end_27 (by decide) ?_
        refine xp_RD_state hX 32 rfl hr xk_RD_23 xnd_RD_end_29 ?_
        refine xf_vret hX hE xnd_RD_end_32 ?_
        first | exact absurd h1 h19 | exact absurd h19 h1 | (refine ⟨rfl, ?_⟩; simp only [xs_endR, h1, eq_true h19, if_true, if_false]; try rfl)
      · refine xf_bipush hX 24 rfl (7) xnd_RD_end_22 (by decide) ?_
        refine xf_goto hX 29 xnd_RD_end_24 (by decide) ?_
        refine xp_RD_state hX 32 rfl hr xk_RD_23 xnd_RD_end_29 ?_
        refine xf_vret hX hE xnd_RD_end_32 ?_
        first | exact absurd h1 h19 | exact absurd h19 h1 | (refine ⟨rfl, ?_⟩; simp only [xs_endR, h1, h19, if_true, if_false]; try rfl)
  · refine xf_iload_n hX 1 rfl 1 xnd_RD_end_0 rfl rfl ?_
    refine xf_if_eq hX 4 rfl 17 xnd_RD_end_1 (by decide) (fun h1 => ?_) (fun h1 => ?_)
    · refine xf_aload_n hX 18 rfl 0 xnd_RD_end_17 rfl rfl ?_
      refine xf_iload_n hX 19 rfl 1 xnd_RD_end_18 rfl rfl ?_
      refine xf_if_eq hX 22 rfl 27 xnd_RD_end_19 (by decide) (fun h19 => ?_) (fun h19 => ?_)
      · refine xf_bipush hX 29 rfl (8) xnd_RD_end_27 (by decide) ?_
        refine xp_RD_state hX 32 rfl hr xk_RD_23 xnd_RD_end_29 ?_
        refine xf_vret hX hE xnd_RD_end_32 ?_
        first | exact absurd h1 h19 | exact absurd h19 h1 | (refine ⟨rfl, ?_⟩; simp only [xs_endR, eq_true h1, eq_true h19, if_true, if_false]; try rfl)
      · refine xf_bipush hX 24 rfl (7) xnd_RD_end_22 (by decide) ?_
        refine xf_goto hX 29 xnd_RD_end_24 (by decide) ?_
        refine xp_RD_state hX 32 rfl hr xk_RD_23 xnd_RD_end_29 ?_
        refine xf_vret hX hE xnd_RD_end_32 ?_
        first | exact absurd h1 h19 | exact absurd h19 h1 | (refine ⟨rfl, ?_⟩; simp only [xs_endR, eq_true h1, h19, if_true, if_false]; try rfl)
    · refine xf_aload_n hX 5 rfl 0 xnd_RD_end_4 rfl rfl ?_
      refine xg_RD_store hX 8 rfl hr xk_RD_9 xnd_RD_end_5 ?_
      refine xg_ST_bits hX 11 rfl xk_RD_120 xnd_RD_end_8 ?_
      refine xf_aload_n hX 12 rfl 0 xnd_RD_end_11 rfl rfl ?_
      refine xg_RD_keptItem hX 15 rfl hr xk_RD_81 xnd_RD_end_12 ?_
      refine xf_iconst hX 16 rfl (1) xnd_RD_end_15 (by decide) ?_
      refine xaX_bastore hX 17 rfl rfl (hi h1) rfl xnd_RD_end_16 ?_
      refine xf_aload_n hX 18 rfl 0 xnd_RD_end_17 rfl rfl ?_
      refine xf_iload_n hX 19 rfl 1 xnd_RD_end_18 rfl rfl ?_
      refine xf_if_eq hX 22 rfl 27 xnd_RD_end_19 (by decide) (fun h19 => ?_) (fun h19 => ?_)
      · refine xf_bipush hX 29 rfl (8) xnd_RD_end_27 (by decide) ?_
        refine xp_RD_state hX 32 rfl hr xk_RD_23 xnd_RD_end_29 ?_
        refine xf_vret hX hE xnd_RD_end_32 ?_
        first | exact absurd h1 h19 | exact absurd h19 h1 | (refine ⟨rfl, ?_⟩; simp only [xs_endR, h1, eq_true h19, if_true, if_false]; try rfl)
      · refine xf_bipush hX 24 rfl (7) xnd_RD_end_22 (by decide) ?_
        refine xf_goto hX 29 xnd_RD_end_24 (by decide) ?_
        refine xp_RD_state hX 32 rfl hr xk_RD_23 xnd_RD_end_29 ?_
        refine xf_vret hX hE xnd_RD_end_32 ?_
        first | exact absurd h1 h19 | exact absurd h19 h1 | (refine ⟨rfl, ?_⟩; simp only [xs_endR, h1, h19, if_true, if_false]; try rfl)

set_option maxRecDepth 100000 in
set_option maxHeartbeats 4000000 in
theorem xc_chk (P : xw_T) (σ τ : xf_T) (r : Nat) (hr : r < 3) (hi : ¬ σ.1 (24 + 8 * r + 6) = -1 → vp_in (σ.1 (24 + 8 * r + 6)) (xw_n P)) : xf_F (xw_l P) xny_RD_checkVersion xnc_RD_checkVersion 1 none 3 61 (xw_W P) (xw_D P) (xw_ty P) [.ref (xw_a P (18 + r))] (σ, τ) none (xs_chk (24 + 8 * r) σ, τ) := by
  refine xf_start (own := xnR_RD) [some (.ref (xw_a P (18 + r)))] rfl (by decide) (Nat.le_of_ble_eq_true rfl) rfl (xf_cat rfl) ?_
  intro X hX hE
  have h9 : r = 0 ∨ r = 1 ∨ r = 2 := by omega
  rcases h9 with rfl | rfl | rfl
  · refine xf_aload_n hX 1 rfl 0 xnd_RD_checkVersion_0 rfl rfl ?_
    refine xg_RD_store hX 4 rfl hr xk_RD_9 xnd_RD_checkVersion_1 ?_
    refine xf_aload_n hX 5 rfl 0 xnd_RD_checkVersion_4 rfl rfl ?_
    refine xg_RD_key hX 8 rfl hr xk_RD_31 xnd_RD_checkVersion_5 ?_
    refine xf_V1i hX 11 rfl (xc_versionFor P _ _ _) xq_ST_versionFor xk_RD_60 xrX_ST rfl rfl xnd_RD_checkVersion_8 ?_
    refine xf_aload_n hX 12 rfl 0 xnd_RD_checkVersion_11 rfl rfl ?_
    refine xg_RD_keptVersion hX 15 rfl hr xk_RD_65 xnd_RD_checkVersion_12 ?_
    refine xf_icmp_eq hX 18 rfl 62 xnd_RD_checkVersion_15 (by decide) (fun h15 => ?_) (fun h15 => ?_)
    · refine xf_aload_n hX 63 rfl 0 xnd_RD_checkVersion_62 rfl rfl ?_
      refine xf_aload_n hX 64 rfl 0 xnd_RD_checkVersion_63 rfl rfl ?_
      refine xg_RD_keptItem hX 67 rfl hr xk_RD_81 xnd_RD_checkVersion_64 ?_
      refine xf_iconst hX 68 rfl (-1) xnd_RD_checkVersion_67 (by decide) ?_
      refine xf_icmp_eq hX 71 rfl 89 xnd_RD_checkVersion_68 (by decide) (fun h68 => ?_) (fun h68 => ?_)
      · refine xf_iconst hX 90 rfl (0) xnd_RD_checkVersion_89 (by decide) ?_
        refine xf_V1v hX 93 rfl (xc_endR P _ _ _ hr 0 (fun h0 => absurd rfl h0)) xq_RD_end xk_RD_107 (xrX_RD hr) rfl rfl xnd_RD_checkVersion_90 ?_
        refine xf_vret hX hE xnd_RD_checkVersion_93 ?_
        refine ⟨rfl, ?_⟩
        simp only [xs_chk, xs_hit, eq_true h15, eq_true h68, if_true, if_false]
      · refine xf_aload_n hX 72 rfl 0 xnd_RD_checkVersion_71 rfl rfl ?_
        refine xg_RD_store hX 75 rfl hr xk_RD_9 xnd_RD_checkVersion_72 ?_
        refine xf_aload_n hX 76 rfl 0 xnd_RD_checkVersion_75 rfl rfl ?_
        refine xg_RD_copiedExpiry hX 79 rfl hr xk_RD_99 xnd_RD_checkVersion_76 ?_
        refine xf_V1i hX 82 rfl (xc_isOver P _ _ _) xq_ST_isOver xk_RD_103 xrX_ST rfl rfl xnd_RD_checkVersion_79 ?_
        refine xf_if_ne hX 85 rfl 89 xnd_RD_checkVersion_82 (by decide) (fun h82 => ?_) (fun h82 => ?_)
        · refine xf_iconst hX 90 rfl (0) xnd_RD_checkVersion_89 (by decide) ?_
          refine xf_V1v hX 93 rfl (xc_endR P _ _ _ hr _ (fun _ => hi h68)) xq_RD_end xk_RD_107 (xrX_RD hr) rfl rfl xnd_RD_checkVersion_90 ?_
          refine xf_vret hX hE xnd_RD_checkVersion_93 ?_
          refine ⟨rfl, ?_⟩
          simp only [xs_chk, xs_hit, eq_true h15, h68, h82, if_true, if_false]
          try rfl
        · refine xf_iconst hX 86 rfl (1) xnd_RD_checkVersion_85 (by decide) ?_
          refine xf_goto hX 90 xnd_RD_checkVersion_86 (by decide) ?_
          refine xf_V1v hX 93 rfl (xc_endR P _ _ _ hr _ (fun _ => hi h68)) xq_RD_end xk_RD_107 (xrX_RD hr) rfl rfl xnd_RD_checkVersion_90 ?_
          refine xf_vret hX hE xnd_RD_checkVersion_93 ?_
          refine ⟨rfl, ?_⟩
          simp only [xs_chk, xs_hit, eq_true h15, h68, eq_true h82, if_true, if_false]
          try rfl
    · refine xf_aload_n hX 19 rfl 0 xnd_RD_checkVersion_18 rfl rfl ?_
      refine xf_dup hX 20 rfl xnd_RD_checkVersion_19 rfl ?_
      refine xg_RD_retries hX 23 rfl hr xk_RD_34 xnd_RD_checkVersion_20 ?_
      refine xf_iconst hX 24 rfl (1) xnd_RD_checkVersion_23 (by decide) ?_
      refine xf_iadd hX 25 rfl xnd_RD_checkVersion_24 ?_
      refine xp_RD_retries hX 28 rfl hr xk_RD_34 xnd_RD_checkVersion_25 ?_
      refine xf_aload_n hX 29 rfl 0 xnd_RD_checkVersion_28 rfl rfl ?_
      refine xg_RD_tally hX 32 rfl hr xk_RD_19 xnd_RD_checkVersion_29 ?_
      refine xf_dup hX 33 rfl xnd_RD_checkVersion_32 rfl ?_
      refine xg_TA_retries hX 36 rfl xk_RD_102 xnd_RD_checkVersion_33 ?_
      refine xf_iconst hX 37 rfl (1) xnd_RD_checkVersion_36 (by decide) ?_
      refine xf_iadd hX 38 rfl xnd_RD_checkVersion_37 ?_
      refine xp_TA_retries hX 41 rfl xk_RD_102 xnd_RD_checkVersion_38 ?_
      refine xf_aload_n hX 42 rfl 0 xnd_RD_checkVersion_41 rfl rfl ?_
      refine xf_aload_n hX 43 rfl 0 xnd_RD_checkVersion_42 rfl rfl ?_
      refine xg_RD_retries hX 46 rfl hr xk_RD_34 xnd_RD_checkVersion_43 ?_
      change xf_V X 46 _ (.int (σ.1 (24 + 8 * 0 + 4) + 1) :: _) _
      refine xf_iconst hX 47 rfl (3) xnd_RD_checkVersion_46 (by decide) ?_
      refine xf_icmp_lt hX 50 rfl 55 xnd_RD_checkVersion_47 (by decide) (fun h47 => ?_) (fun h47 => ?_)
      · refine xf_iconst hX 56 rfl (1) xnd_RD_checkVersion_55 (by decide) ?_
        refine xp_RD_state hX 59 rfl hr xk_RD_23 xnd_RD_checkVersion_56 ?_
        refine xf_goto hX 93 xnd_RD_checkVersion_59 (by decide) ?_
        refine xf_vret hX hE xnd_RD_checkVersion_93 ?_
        refine ⟨rfl, ?_⟩
        simp only [xs_chk, xs_hit, h15, h47, if_true, if_false]
        try rfl
      · refine xf_bipush hX 52 rfl (6) xnd_RD_checkVersion_50 (by decide) ?_
        refine xf_goto hX 56 xnd_RD_checkVersion_52 (by decide) ?_
        refine xp_RD_state hX 59 rfl hr xk_RD_23 xnd_RD_checkVersion_56 ?_
        refine xf_goto hX 93 xnd_RD_checkVersion_59 (by decide) ?_
        refine xf_vret hX hE xnd_RD_checkVersion_93 ?_
        refine ⟨rfl, ?_⟩
        simp only [xs_chk, xs_hit, h15, h47, if_true, if_false]
        try rfl
  · refine xf_aload_n hX 1 rfl 0 xnd_RD_checkVersion_0 rfl rfl ?_
    refine xg_RD_store hX 4 rfl hr xk_RD_9 xnd_RD_checkVersion_1 ?_
    refine xf_aload_n hX 5 rfl 0 xnd_RD_checkVersion_4 rfl rfl ?_
    refine xg_RD_key hX 8 rfl hr xk_RD_31 xnd_RD_checkVersion_5 ?_
    refine xf_V1i hX 11 rfl (xc_versionFor P _ _ _) xq_ST_versionFor xk_RD_60 xrX_ST rfl rfl xnd_RD_checkVersion_8 ?_
    refine xf_aload_n hX 12 rfl 0 xnd_RD_checkVersion_11 rfl rfl ?_
    refine xg_RD_keptVersion hX 15 rfl hr xk_RD_65 xnd_RD_checkVersion_12 ?_
    refine xf_icmp_eq hX 18 rfl 62 xnd_RD_checkVersion_15 (by decide) (fun h15 => ?_) (fun h15 => ?_)
    · refine xf_aload_n hX 63 rfl 0 xnd_RD_checkVersion_62 rfl rfl ?_
      refine xf_aload_n hX 64 rfl 0 xnd_RD_checkVersion_63 rfl rfl ?_
      refine xg_RD_keptItem hX 67 rfl hr xk_RD_81 xnd_RD_checkVersion_64 ?_
      refine xf_iconst hX 68 rfl (-1) xnd_RD_checkVersion_67 (by decide) ?_
      refine xf_icmp_eq hX 71 rfl 89 xnd_RD_checkVersion_68 (by decide) (fun h68 => ?_) (fun h68 => ?_)
      · refine xf_iconst hX 90 rfl (0) xnd_RD_checkVersion_89 (by decide) ?_
        refine xf_V1v hX 93 rfl (xc_endR P _ _ _ hr 0 (fun h0 => absurd rfl h0)) xq_RD_end xk_RD_107 (xrX_RD hr) rfl rfl xnd_RD_checkVersion_90 ?_
        refine xf_vret hX hE xnd_RD_checkVersion_93 ?_
        refine ⟨rfl, ?_⟩
        simp only [xs_chk, xs_hit, eq_true h15, eq_true h68, if_true, if_false]
      · refine xf_aload_n hX 72 rfl 0 xnd_RD_checkVersion_71 rfl rfl ?_
        refine xg_RD_store hX 75 rfl hr xk_RD_9 xnd_RD_checkVersion_72 ?_
        refine xf_aload_n hX 76 rfl 0 xnd_RD_checkVersion_75 rfl rfl ?_
        refine xg_RD_copiedExpiry hX 79 rfl hr xk_RD_99 xnd_RD_checkVersion_76 ?_
        refine xf_V1i hX 82 rfl (xc_isOver P _ _ _) xq_ST_isOver xk_RD_103 xrX_ST rfl rfl xnd_RD_checkVersion_79 ?_
        refine xf_if_ne hX 85 rfl 89 xnd_RD_checkVersion_82 (by decide) (fun h82 => ?_) (fun h82 => ?_)
        · refine xf_iconst hX 90 rfl (0) xnd_RD_checkVersion_89 (by decide) ?_
          refine xf_V1v hX 93 rfl (xc_endR P _ _ _ hr _ (fun _ => hi h68)) xq_RD_end xk_RD_107 (xrX_RD hr) rfl rfl xnd_RD_checkVersion_90 ?_
          refine xf_vret hX hE xnd_RD_checkVersion_93 ?_
          refine ⟨rfl, ?_⟩
          simp only [xs_chk, xs_hit, eq_true h15, h68, h82, if_true, if_false]
          try rfl
        · refine xf_iconst hX 86 rfl (1) xnd_RD_checkVersion_85 (by decide) ?_
          refine xf_goto hX 90 xnd_RD_checkVersion_86 (by decide) ?_
          refine xf_V1v hX 93 rfl (xc_endR P _ _ _ hr _ (fun _ => hi h68)) xq_RD_end xk_RD_107 (xrX_RD hr) rfl rfl xnd_RD_checkVersion_90 ?_
          refine xf_vret hX hE xnd_RD_checkVersion_93 ?_
          refine ⟨rfl, ?_⟩
          simp only [xs_chk, xs_hit, eq_true h15, h68, eq_true h82, if_true, if_false]
          try rfl
    · refine xf_aload_n hX 19 rfl 0 xnd_RD_checkVersion_18 rfl rfl ?_
      refine xf_dup hX 20 rfl xnd_RD_checkVersion_19 rfl ?_
      refine xg_RD_retries hX 23 rfl hr xk_RD_34 xnd_RD_checkVersion_20 ?_
      refine xf_iconst hX 24 rfl (1) xnd_RD_checkVersion_23 (by decide) ?_
      refine xf_iadd hX 25 rfl xnd_RD_checkVersion_24 ?_
      refine xp_RD_retries hX 28 rfl hr xk_RD_34 xnd_RD_checkVersion_25 ?_
      refine xf_aload_n hX 29 rfl 0 xnd_RD_checkVersion_28 rfl rfl ?_
      refine xg_RD_tally hX 32 rfl hr xk_RD_19 xnd_RD_checkVersion_29 ?_
      refine xf_dup hX 33 rfl xnd_RD_checkVersion_32 rfl ?_
      refine xg_TA_retries hX 36 rfl xk_RD_102 xnd_RD_checkVersion_33 ?_
      refine xf_iconst hX 37 rfl (1) xnd_RD_checkVersion_36 (by decide) ?_
      refine xf_iadd hX 38 rfl xnd_RD_checkVersion_37 ?_
      refine xp_TA_retries hX 41 rfl xk_RD_102 xnd_RD_checkVersion_38 ?_
      refine xf_aload_n hX 42 rfl 0 xnd_RD_checkVersion_41 rfl rfl ?_
      refine xf_aload_n hX 43 rfl 0 xnd_RD_checkVersion_42 rfl rfl ?_
      refine xg_RD_retries hX 46 rfl hr xk_RD_34 xnd_RD_checkVersion_43 ?_
      change xf_V X 46 _ (.int (σ.1 (24 + 8 * 1 + 4) + 1) :: _) _
      refine xf_iconst hX 47 rfl (3) xnd_RD_checkVersion_46 (by decide) ?_
      refine xf_icmp_lt hX 50 rfl 55 xnd_RD_checkVersion_47 (by decide) (fun h47 => ?_) (fun h47 => ?_)
      · refine xf_iconst hX 56 rfl (1) xnd_RD_checkVersion_55 (by decide) ?_
        refine xp_RD_state hX 59 rfl hr xk_RD_23 xnd_RD_checkVersion_56 ?_
        refine xf_goto hX 93 xnd_RD_checkVersion_59 (by decide) ?_
        refine xf_vret hX hE xnd_RD_checkVersion_93 ?_
        refine ⟨rfl, ?_⟩
        simp only [xs_chk, xs_hit, h15, h47, if_true, if_false]
        try rfl
      · refine xf_bipush hX 52 rfl (6) xnd_RD_checkVersion_50 (by decide) ?_
        refine xf_goto hX 56 xnd_RD_checkVersion_52 (by decide) ?_
        refine xp_RD_state hX 59 rfl hr xk_RD_23 xnd_RD_checkVersion_56 ?_
        refine xf_goto hX 93 xnd_RD_checkVersion_59 (by decide) ?_
        refine xf_vret hX hE xnd_RD_checkVersion_93 ?_
        refine ⟨rfl, ?_⟩
        simp only [xs_chk, xs_hit, h15, h47, if_true, if_false]
        try rfl
  · refine xf_aload_n hX 1 rfl 0 xnd_RD_checkVersion_0 rfl rfl ?_
    refine xg_RD_store hX 4 rfl hr xk_RD_9 xnd_RD_checkVersion_1 ?_
    refine xf_aload_n hX 5 rfl 0 xnd_RD_checkVersion_4 rfl rfl ?_
    refine xg_RD_key hX 8 rfl hr xk_RD_31 xnd_RD_checkVersion_5 ?_
    refine xf_V1i hX 11 rfl (xc_versionFor P _ _ _) xq_ST_versionFor xk_RD_60 xrX_ST rfl rfl xnd_RD_checkVersion_8 ?_
    refine xf_aload_n hX 12 rfl 0 xnd_RD_checkVersion_11 rfl rfl ?_
    refine xg_RD_keptVersion hX 15 rfl hr xk_RD_65 xnd_RD_checkVersion_12 ?_
    refine xf_icmp_eq hX 18 rfl 62 xnd_RD_checkVersion_15 (by decide) (fun h15 => ?_) (fun h15 => ?_)
    · refine xf_aload_n hX 63 rfl 0 xnd_RD_checkVersion_62 rfl rfl ?_
      refine xf_aload_n hX 64 rfl 0 xnd_RD_checkVersion_63 rfl rfl ?_
      refine xg_RD_keptItem hX 67 rfl hr xk_RD_81 xnd_RD_checkVersion_64 ?_
      refine xf_iconst hX 68 rfl (-1) xnd_RD_checkVersion_67 (by decide) ?_
      refine xf_icmp_eq hX 71 rfl 89 xnd_RD_checkVersion_68 (by decide) (fun h68 => ?_) (fun h68 => ?_)
      · refine xf_iconst hX 90 rfl (0) xnd_RD_checkVersion_89 (by decide) ?_
        refine xf_V1v hX 93 rfl (xc_endR P _ _ _ hr 0 (fun h0 => absurd rfl h0)) xq_RD_end xk_RD_107 (xrX_RD hr) rfl rfl xnd_RD_checkVersion_90 ?_
        refine xf_vret hX hE xnd_RD_checkVersion_93 ?_
        refine ⟨rfl, ?_⟩
        simp only [xs_chk, xs_hit, eq_true h15, eq_true h68, if_true, if_false]
      · refine xf_aload_n hX 72 rfl 0 xnd_RD_checkVersion_71 rfl rfl ?_
        refine xg_RD_store hX 75 rfl hr xk_RD_9 xnd_RD_checkVersion_72 ?_
        refine xf_aload_n hX 76 rfl 0 xnd_RD_checkVersion_75 rfl rfl ?_
        refine xg_RD_copiedExpiry hX 79 rfl hr xk_RD_99 xnd_RD_checkVersion_76 ?_
        refine xf_V1i hX 82 rfl (xc_isOver P _ _ _) xq_ST_isOver xk_RD_103 xrX_ST rfl rfl xnd_RD_checkVersion_79 ?_
        refine xf_if_ne hX 85 rfl 89 xnd_RD_checkVersion_82 (by decide) (fun h82 => ?_) (fun h82 => ?_)
        · refine xf_iconst hX 90 rfl (0) xnd_RD_checkVersion_89 (by decide) ?_
          refine xf_V1v hX 93 rfl (xc_endR P _ _ _ hr _ (fun _ => hi h68)) xq_RD_end xk_RD_107 (xrX_RD hr) rfl rfl xnd_RD_checkVersion_90 ?_
          refine xf_vret hX hE xnd_RD_checkVersion_93 ?_
          refine ⟨rfl, ?_⟩
          simp only [xs_chk, xs_hit, eq_true h15, h68, h82, if_true, if_false]
          try rfl
        · refine xf_iconst hX 86 rfl (1) xnd_RD_checkVersion_85 (by decide) ?_
          refine xf_goto hX 90 xnd_RD_checkVersion_86 (by decide) ?_
          refine xf_V1v hX 93 rfl (xc_endR P _ _ _ hr _ (fun _ => hi h68)) xq_RD_end xk_RD_107 (xrX_RD hr) rfl rfl xnd_RD_checkVersion_90 ?_
          refine xf_vret hX hE xnd_RD_checkVersion_93 ?_
          refine ⟨rfl, ?_⟩
          simp only [xs_chk, xs_hit, eq_true h15, h68, eq_true h82, if_true, if_false]
          try rfl
    · refine xf_aload_n hX 19 rfl 0 xnd_RD_checkVersion_18 rfl rfl ?_
      refine xf_dup hX 20 rfl xnd_RD_checkVersion_19 rfl ?_
      refine xg_RD_retries hX 23 rfl hr xk_RD_34 xnd_RD_checkVersion_20 ?_
      refine xf_iconst hX 24 rfl (1) xnd_RD_checkVersion_23 (by decide) ?_
      refine xf_iadd hX 25 rfl xnd_RD_checkVersion_24 ?_
      refine xp_RD_retries hX 28 rfl hr xk_RD_34 xnd_RD_checkVersion_25 ?_
      refine xf_aload_n hX 29 rfl 0 xnd_RD_checkVersion_28 rfl rfl ?_
      refine xg_RD_tally hX 32 rfl hr xk_RD_19 xnd_RD_checkVersion_29 ?_
      refine xf_dup hX 33 rfl xnd_RD_checkVersion_32 rfl ?_
      refine xg_TA_retries hX 36 rfl xk_RD_102 xnd_RD_checkVersion_33 ?_
      refine xf_iconst hX 37 rfl (1) xnd_RD_checkVersion_36 (by decide) ?_
      refine xf_iadd hX 38 rfl xnd_RD_checkVersion_37 ?_
      refine xp_TA_retries hX 41 rfl xk_RD_102 xnd_RD_checkVersion_38 ?_
      refine xf_aload_n hX 42 rfl 0 xnd_RD_checkVersion_41 rfl rfl ?_
      refine xf_aload_n hX 43 rfl 0 xnd_RD_checkVersion_42 rfl rfl ?_
      refine xg_RD_retries hX 46 rfl hr xk_RD_34 xnd_RD_checkVersion_43 ?_
      change xf_V X 46 _ (.int (σ.1 (24 + 8 * 2 + 4) + 1) :: _) _
      refine xf_iconst hX 47 rfl (3) xnd_RD_checkVersion_46 (by decide) ?_
      refine xf_icmp_lt hX 50 rfl 55 xnd_RD_checkVersion_47 (by decide) (fun h47 => ?_) (fun h47 => ?_)
      · refine xf_iconst hX 56 rfl (1) xnd_RD_checkVersion_55 (by decide) ?_
        refine xp_RD_state hX 59 rfl hr xk_RD_23 xnd_RD_checkVersion_56 ?_
        refine xf_goto hX 93 xnd_RD_checkVersion_59 (by decide) ?_
        refine xf_vret hX hE xnd_RD_checkVersion_93 ?_
        refine ⟨rfl, ?_⟩
        simp only [xs_chk, xs_hit, h15, h47, if_true, if_false]
        try rfl
      · refine xf_bipush hX 52 rfl (6) xnd_RD_checkVersion_50 (by decide) ?_
        refine xf_goto hX 56 xnd_RD_checkVersion_52 (by decide) ?_
        refine xp_RD_state hX 59 rfl hr xk_RD_23 xnd_RD_checkVersion_56 ?_
        refine xf_goto hX 93 xnd_RD_checkVersion_59 (by decide) ?_
        refine xf_vret hX hE xnd_RD_checkVersion_93 ?_
        refine ⟨rfl, ?_⟩
        simp only [xs_chk, xs_hit, h15, h47, if_true, if_false]
        try rfl
end
section
/-! Contracts of the class: the readers' steps, and the face. Laid by wip/gen/class9.py. -/
theorem xs_rd3 {r : Int32} (h : ¬ xs_isW r 0 2 = 0) : vp_in r 3 ∧ r.toNatClampNeg < 3 := by
  unfold xs_isW at h
  by_cases h1 : r < 0
  · rw [if_pos h1] at h; exact absurd rfl h
  · rw [if_neg h1] at h
    by_cases h2 : 2 < r
    · rw [if_pos h2] at h; exact absurd rfl h
    · obtain ⟨j, hj, rfl⟩ := nI_of h1
      have : j ≤ 2 := by
        rw [show (2 : Int32) = nI 2 from rfl, nI_ltI (by omega) hj] at h2
        omega
      exact ⟨vp_in_nI (by omega) (by omega), by rw [nI_clamp hj]; omega⟩
set_option maxRecDepth 100000 in
set_option maxHeartbeats 4000000 in
theorem xc_lck (P : xw_T) (σ τ : xf_T) (r : Nat) (hr : r < 3) (ho : xs_okP (xw_n P) (xw_w P) σ) : xf_F (xw_l P) xny_RD_readLocked xnc_RD_readLocked 2 none 5 103 (xw_W P) (xw_D P) (xw_ty P) [.ref (xw_a P (18 + r))] (σ, τ) none (xs_lck (xw_w P) (24 + 8 * r) σ, τ) := by
  refine xf_start (own := xnR_RD) [some (.ref (xw_a P (18 + r))), none] rfl (by decide) (Nat.le_of_ble_eq_true rfl) rfl (xf_cat rfl) ?_
  intro X hX hE
  have h9 : r = 0 ∨ r = 1 ∨ r = 2 := by omega
  rcases h9 with rfl | rfl | rfl
  · have hw := ho.2
    by_cases hu : σ.1 9 = 0
    · have hu1 : xs_uw σ = 1 := by unfold xs_uw; rw [if_pos hu]
      refine xf_aload_n hX 1 rfl 0 xnd_RD_readLocked_0 rfl rfl ?_
      refine xg_RD_writer hX 4 rfl hr xk_RD_15 xnd_RD_readLocked_1 ?_
      refine xf_V0i hX 7 rfl (xc_uw P _ _) xq_WR_isUnderWay xk_RD_111 xrX_WR rfl rfl xnd_RD_readLocked_4 ?_
      rw [hu1]
      refine xf_if_eq hX 10 rfl 24 xnd_RD_readLocked_7 (by decide) (fun h7 => absurd h7 (by decide)) (fun _ => ?_)
      refine xf_aload_n hX 11 rfl 0 xnd_RD_readLocked_10 rfl rfl ?_
      refine xg_RD_tally hX 14 rfl hr xk_RD_19 xnd_RD_readLocked_11 ?_
      refine xf_dup hX 15 rfl xnd_RD_readLocked_14 rfl ?_
      refine xg_TA_waits hX 18 rfl xk_RD_68 xnd_RD_readLocked_15 ?_
      refine xf_iconst hX 19 rfl (1) xnd_RD_readLocked_18 (by decide) ?_
      refine xf_iadd hX 20 rfl xnd_RD_readLocked_19 ?_
      refine xp_TA_waits hX 23 rfl xk_RD_68 xnd_RD_readLocked_20 ?_
      refine xf_vret hX hE xnd_RD_readLocked_23 ?_
      refine ⟨rfl, ?_⟩
      simp only [xs_lck, eq_true hu, if_true]
    · have hu0 : xs_uw σ = 0 := by unfold xs_uw; rw [if_neg hu]
      have hs2 := xs_lk_2 (xw_w P) σ (σ.1 (24 + 8 * 0 + 3))
      have hfd := ho.find (σ.1 (24 + 8 * 0 + 3))
      have hfv := ho.fnd (σ.1 (24 + 8 * 0 + 3))
      have hfe : (if xs_find (xw_w P) σ (σ.1 (24 + 8 * 0 + 3)) = -1 then -1 else σ.2 5 (xs_find (xw_w P) σ (σ.1 (24 + 8 * 0 + 3))).toNatClampNeg) = xs_fnd (xw_w P) σ (σ.1 (24 + 8 * 0 + 3)) := rfl
      have hFin : (if xs_fnd (xw_w P) σ (σ.1 (24 + 8 * 0 + 3)) = -1 then xs_endR (24 + 8 * 0) (xs_lck1 (xw_w P) (24 + 8 * 0) σ) (xs_hit (24 + 8 * 0) (xs_lck1 (xw_w P) (24 + 8 * 0) σ)) else xs_endR (24 + 8 * 0) (xs_copy (24 + 8 * 0) (xs_lck1 (xw_w P) (24 + 8 * 0) σ)) (xs_hit (24 + 8 * 0) (xs_copy (24 + 8 * 0) (xs_lck1 (xw_w P) (24 + 8 * 0) σ)))) = xs_lck (xw_w P) (24 + 8 * 0) σ := by unfold xs_lck; rw [if_neg hu]
      have hl1 : xs_lck1 (xw_w P) (24 + 8 * 0) σ = xf_I (xs_lk (xw_w P) σ (σ.1 (24 + 8 * 0 + 3))) (24 + 8 * 0 + 6) (xs_fnd (xw_w P) σ (σ.1 (24 + 8 * 0 + 3))) := rfl
      rw [hl1] at hFin
      generalize hs : xs_lk (xw_w P) σ (σ.1 (24 + 8 * 0 + 3)) = σ' at hs2 hFin
      generalize hF : xs_find (xw_w P) σ (σ.1 (24 + 8 * 0 + 3)) = F at hfd hfe
      generalize xs_fnd (xw_w P) σ (σ.1 (24 + 8 * 0 + 3)) = f0 at hFin hfv hfe
      generalize xs_lck (xw_w P) (24 + 8 * 0) σ = FIN at hE hFin
      have hfi : ¬ f0 = -1 → vp_in f0 (xw_n P) := fun h0 => hfv.resolve_left h0
      have hFi : ¬ F = -1 → vp_in F (8 * (xw_w P)) := by
        intro h9
        rcases hfd with g | ⟨q, g1, g2, -⟩
        · exact absurd g h9
        · exact xs_in g2 g1 (by omega)
      have K2 : ∀ s, s.1 (24 + 8 * 0 + 6) = f0 → xs_endR (24 + 8 * 0) s (xs_hit (24 + 8 * 0) s) = FIN → xf_V X 70 [some (.ref (xw_a P (18 + 0))), some (.int F)] [] (s, τ) := by
        intro s hs6 hfin
        refine xf_aload_n hX 71 rfl 0 xnd_RD_readLocked_70 rfl rfl ?_
        refine xf_aload_n hX 72 rfl 0 xnd_RD_readLocked_71 rfl rfl ?_
        refine xg_RD_keptItem hX 75 rfl hr xk_RD_81 xnd_RD_readLocked_72 ?_
        rw [hs6]
        refine xf_iconst hX 76 rfl (-1) xnd_RD_readLocked_75 (by decide) ?_
        refine xf_icmp_eq hX 79 rfl 97 xnd_RD_readLocked_76 (by decide) (fun h76 => ?_) (fun h76 => ?_)
        · refine xf_iconst hX 98 rfl (0) xnd_RD_readLocked_97 (by decide) ?_
          refine xf_V1v hX 101 rfl (xc_endR P _ _ _ hr 0 (fun h0 => absurd rfl h0)) xq_RD_end xk_RD_107 (xrX_RD hr) rfl rfl xnd_RD_readLocked_98 ?_
          refine xf_vret hX hE xnd_RD_readLocked_101 ?_
          refine ⟨rfl, ?_⟩
          rw [← hfin]
          simp only [xs_hit, hs6, eq_true h76, if_true, if_false]
        · refine xf_aload_n hX 80 rfl 0 xnd_RD_readLocked_79 rfl rfl ?_
          refine xg_RD_store hX 83 rfl hr xk_RD_9 xnd_RD_readLocked_80 ?_
          refine xf_aload_n hX 84 rfl 0 xnd_RD_readLocked_83 rfl rfl ?_
          refine xg_RD_copiedExpiry hX 87 rfl hr xk_RD_99 xnd_RD_readLocked_84 ?_
          refine xf_V1i hX 90 rfl (xc_isOver P _ _ _) xq_ST_isOver xk_RD_103 xrX_ST rfl rfl xnd_RD_readLocked_87 ?_
          refine xf_if_ne hX 93 rfl 97 xnd_RD_readLocked_90 (by decide) (fun h90 => ?_) (fun h90 => ?_)
          · refine xf_iconst hX 98 rfl (0) xnd_RD_readLocked_97 (by decide) ?_
            refine xf_V1v hX 101 rfl (xc_endR P _ _ _ hr _ (fun _ => by rw [hs6]; exact hfi h76)) xq_RD_end xk_RD_107 (xrX_RD hr) rfl rfl xnd_RD_readLocked_98 ?_
            refine xf_vret hX hE xnd_RD_readLocked_101 ?_
            refine ⟨rfl, ?_⟩
            rw [← hfin]
            simp only [xs_hit, hs6, h76, h90, if_true, if_false]
          · refine xf_iconst hX 94 rfl (1) xnd_RD_readLocked_93 (by decide) ?_
            refine xf_goto hX 98 xnd_RD_readLocked_94 (by decide) ?_
            refine xf_V1v hX 101 rfl (xc_endR P _ _ _ hr _ (fun _ => by rw [hs6]; exact hfi h76)) xq_RD_end xk_RD_107 (xrX_RD hr) rfl rfl xnd_RD_readLocked_98 ?_
            refine xf_vret hX hE xnd_RD_readLocked_101 ?_
            refine ⟨rfl, ?_⟩
            rw [← hfin]
            simp only [xs_hit, hs6, h76, eq_true h90, if_true, if_false]
      have K : ∀ f, f = f0 → xf_V X 55 [some (.ref (xw_a P (18 + 0))), some (.int F)] [.int f, .ref (xw_a P (18 + 0))] (σ', τ) := by
        intro f hf0
        subst hf0
        refine xp_RD_keptItem hX 58 rfl hr xk_RD_81 xnd_RD_readLocked_55 ?_
        refine xf_aload_n hX 59 rfl 0 xnd_RD_readLocked_58 rfl rfl ?_
        refine xg_RD_keptItem hX 62 rfl hr xk_RD_81 xnd_RD_readLocked_59 ?_
        change xf_V X 62 _ [.int f] _
        refine xf_iconst hX 63 rfl (-1) xnd_RD_readLocked_62 (by decide) ?_
        refine xf_icmp_eq hX 66 rfl 70 xnd_RD_readLocked_63 (by decide) (fun h63 => ?_) (fun h63 => ?_)
        · exact K2 _ rfl (by rw [← hFin, if_pos h63])
        · refine xf_aload_n hX 67 rfl 0 xnd_RD_readLocked_66 rfl rfl ?_
          refine xf_V0v hX 70 rfl (xc_copy P _ _ _ hr (hfi h63)) xq_RD_copyItem xk_RD_51 (xrX_RD hr) rfl rfl xnd_RD_readLocked_67 ?_
          exact K2 _ rfl (by rw [← hFin, if_neg h63])
      refine xf_aload_n hX 1 rfl 0 xnd_RD_readLocked_0 rfl rfl ?_
      refine xg_RD_writer hX 4 rfl hr xk_RD_15 xnd_RD_readLocked_1 ?_
      refine xf_V0i hX 7 rfl (xc_uw P _ _) xq_WR_isUnderWay xk_RD_111 xrX_WR rfl rfl xnd_RD_readLocked_4 ?_
      rw [hu0]
      refine xf_if_eq hX 10 rfl 24 xnd_RD_readLocked_7 (by decide) (fun _ => ?_) (fun h7 => absurd rfl h7)
      refine xf_aload_n hX 25 rfl 0 xnd_RD_readLocked_24 rfl rfl ?_
      refine xg_RD_store hX 28 rfl hr xk_RD_9 xnd_RD_readLocked_25 ?_
      refine xf_aload_n hX 29 rfl 0 xnd_RD_readLocked_28 rfl rfl ?_
      refine xg_RD_key hX 32 rfl hr xk_RD_31 xnd_RD_readLocked_29 ?_
      refine xf_V1i hX 35 rfl (xc_lk P _ _ _ ho) xq_ST_lookUp xk_RD_117 xrX_ST rfl rfl xnd_RD_readLocked_32 ?_
      rw [hs, hF]
      refine xf_istore_n hX 36 rfl 1 xnd_RD_readLocked_35 rfl (by decide) ?_
      dsimp only [List.set]
      refine xf_aload_n hX 37 rfl 0 xnd_RD_readLocked_36 rfl rfl ?_
      refine xf_iload_n hX 38 rfl 1 xnd_RD_readLocked_37 rfl rfl ?_
      refine xf_iconst hX 39 rfl (-1) xnd_RD_readLocked_38 (by decide) ?_
      refine xf_icmp_eq hX 42 rfl 54 xnd_RD_readLocked_39 (by decide) (fun h39 => ?_) (fun h39 => ?_)
      · refine xf_iconst hX 55 rfl (-1) xnd_RD_readLocked_54 (by decide) ?_
        exact K _ (by rw [← hfe, if_pos h39])
      · refine xf_aload_n hX 43 rfl 0 xnd_RD_readLocked_42 rfl rfl ?_
        refine xg_RD_store hX 46 rfl hr xk_RD_9 xnd_RD_readLocked_43 ?_
        refine xg_ST_places hX 49 rfl xk_RD_77 xnd_RD_readLocked_46 ?_
        refine xf_iload_n hX 50 rfl 1 xnd_RD_readLocked_49 rfl rfl ?_
        refine xaX_iaload hX 51 rfl rfl (hFi h39) xnd_RD_readLocked_50 ?_
        rw [hs2]
        refine xf_goto hX 55 xnd_RD_readLocked_51 (by decide) ?_
        exact K _ (by rw [← hfe, if_neg h39])
  · have hw := ho.2
    by_cases hu : σ.1 9 = 0
    · have hu1 : xs_uw σ = 1 := by unfold xs_uw; rw [if_pos hu]
      refine xf_aload_n hX 1 rfl 0 xnd_RD_readLocked_0 rfl rfl ?_
      refine xg_RD_writer hX 4 rfl hr xk_RD_15 xnd_RD_readLocked_1 ?_
      refine xf_V0i hX 7 rfl (xc_uw P _ _) xq_WR_isUnderWay xk_RD_111 xrX_WR rfl rfl xnd_RD_readLocked_4 ?_
      rw [hu1]
      refine xf_if_eq hX 10 rfl 24 xnd_RD_readLocked_7 (by decide) (fun h7 => absurd h7 (by decide)) (fun _ => ?_)
      refine xf_aload_n hX 11 rfl 0 xnd_RD_readLocked_10 rfl rfl ?_
      refine xg_RD_tally hX 14 rfl hr xk_RD_19 xnd_RD_readLocked_11 ?_
      refine xf_dup hX 15 rfl xnd_RD_readLocked_14 rfl ?_
      refine xg_TA_waits hX 18 rfl xk_RD_68 xnd_RD_readLocked_15 ?_
      refine xf_iconst hX 19 rfl (1) xnd_RD_readLocked_18 (by decide) ?_
      refine xf_iadd hX 20 rfl xnd_RD_readLocked_19 ?_
      refine xp_TA_waits hX 23 rfl xk_RD_68 xnd_RD_readLocked_20 ?_
      refine xf_vret hX hE xnd_RD_readLocked_23 ?_
      refine ⟨rfl, ?_⟩
      simp only [xs_lck, eq_true hu, if_true]
    · have hu0 : xs_uw σ = 0 := by unfold xs_uw; rw [if_neg hu]
      have hs2 := xs_lk_2 (xw_w P) σ (σ.1 (24 + 8 * 1 + 3))
      have hfd := ho.find (σ.1 (24 + 8 * 1 + 3))
      have hfv := ho.fnd (σ.1 (24 + 8 * 1 + 3))
      have hfe : (if xs_find (xw_w P) σ (σ.1 (24 + 8 * 1 + 3)) = -1 then -1 else σ.2 5 (xs_find (xw_w P) σ (σ.1 (24 + 8 * 1 + 3))).toNatClampNeg) = xs_fnd (xw_w P) σ (σ.1 (24 + 8 * 1 + 3)) := rfl
      have hFin : (if xs_fnd (xw_w P) σ (σ.1 (24 + 8 * 1 + 3)) = -1 then xs_endR (24 + 8 * 1) (xs_lck1 (xw_w P) (24 + 8 * 1) σ) (xs_hit (24 + 8 * 1) (xs_lck1 (xw_w P) (24 + 8 * 1) σ)) else xs_endR (24 + 8 * 1) (xs_copy (24 + 8 * 1) (xs_lck1 (xw_w P) (24 + 8 * 1) σ)) (xs_hit (24 + 8 * 1) (xs_copy (24 + 8 * 1) (xs_lck1 (xw_w P) (24 + 8 * 1) σ)))) = xs_lck (xw_w P) (24 + 8 * 1) σ := by unfold xs_lck; rw [if_neg hu]
      have hl1 : xs_lck1 (xw_w P) (24 + 8 * 1) σ = xf_I (xs_lk (xw_w P) σ (σ.1 (24 + 8 * 1 + 3))) (24 + 8 * 1 + 6) (xs_fnd (xw_w P) σ (σ.1 (24 + 8 * 1 + 3))) := rfl
      rw [hl1] at hFin
      generalize hs : xs_lk (xw_w P) σ (σ.1 (24 + 8 * 1 + 3)) = σ' at hs2 hFin
      generalize hF : xs_find (xw_w P) σ (σ.1 (24 + 8 * 1 + 3)) = F at hfd hfe
      generalize xs_fnd (xw_w P) σ (σ.1 (24 + 8 * 1 + 3)) = f0 at hFin hfv hfe
      generalize xs_lck (xw_w P) (24 + 8 * 1) σ = FIN at hE hFin
      have hfi : ¬ f0 = -1 → vp_in f0 (xw_n P) := fun h0 => hfv.resolve_left h0
      have hFi : ¬ F = -1 → vp_in F (8 * (xw_w P)) := by
        intro h9
        rcases hfd with g | ⟨q, g1, g2, -⟩
        · exact absurd g h9
        · exact xs_in g2 g1 (by omega)
      have K2 : ∀ s, s.1 (24 + 8 * 1 + 6) = f0 → xs_endR (24 + 8 * 1) s (xs_hit (24 + 8 * 1) s) = FIN → xf_V X 70 [some (.ref (xw_a P (18 + 1))), some (.int F)] [] (s, τ) := by
        intro s hs6 hfin
        refine xf_aload_n hX 71 rfl 0 xnd_RD_readLocked_70 rfl rfl ?_
        refine xf_aload_n hX 72 rfl 0 xnd_RD_readLocked_71 rfl rfl ?_
        refine xg_RD_keptItem hX 75 rfl hr xk_RD_81 xnd_RD_readLocked_72 ?_
        rw [hs6]
        refine xf_iconst hX 76 rfl (-1) xnd_RD_readLocked_75 (by decide) ?_
        refine xf_icmp_eq hX 79 rfl 97 xnd_RD_readLocked_76 (by decide) (fun h76 => ?_) (fun h76 => ?_)
        · refine xf_iconst hX 98 rfl (0) xnd_RD_readLocked_97 (by decide) ?_
          refine xf_V1v hX 101 rfl (xc_endR P _ _ _ hr 0 (fun h0 => absurd rfl h0)) xq_RD_end xk_RD_107 (xrX_RD hr) rfl rfl xnd_RD_readLocked_98 ?_
          refine xf_vret hX hE xnd_RD_readLocked_101 ?_
          refine ⟨rfl, ?_⟩
          rw [← hfin]
          simp only [xs_hit, hs6, eq_true h76, if_true, if_false]
        · refine xf_aload_n hX 80 rfl 0 xnd_RD_readLocked_79 rfl rfl ?_
          refine xg_RD_store hX 83 rfl hr xk_RD_9 xnd_RD_readLocked_80 ?_
          refine xf_aload_n hX 84 rfl 0 xnd_RD_readLocked_83 rfl rfl ?_
          refine xg_RD_copiedExpiry hX 87 rfl hr xk_RD_99 xnd_RD_readLocked_84 ?_
          refine xf_V1i hX 90 rfl (xc_isOver P _ _ _) xq_ST_isOver xk_RD_103 xrX_ST rfl rfl xnd_RD_readLocked_87 ?_
          refine xf_if_ne hX 93 rfl 97 xnd_RD_readLocked_90 (by decide) (fun h90 => ?_) (fun h90 => ?_)
          · refine xf_iconst hX 98 rfl (0) xnd_RD_readLocked_97 (by decide) ?_
            refine xf_V1v hX 101 rfl (xc_endR P _ _ _ hr _ (fun _ => by rw [hs6]; exact hfi h76)) xq_RD_end xk_RD_107 (xrX_RD hr) rfl rfl xnd_RD_readLocked_98 ?_
            refine xf_vret hX hE xnd_RD_readLocked_101 ?_
            refine ⟨rfl, ?_⟩
            rw [← hfin]
            simp only [xs_hit, hs6, h76, h90, if_true, if_false]
          · refine xf_iconst hX 94 rfl (1) xnd_RD_readLocked_93 (by decide) ?_
            refine xf_goto hX 98 xnd_RD_readLocked_94 (by decide) ?_
            refine xf_V1v hX 101 rfl (xc_endR P _ _ _ hr _ (fun _ => by rw [hs6]; exact hfi h76)) xq_RD_end xk_RD_107 (xrX_RD hr) rfl rfl xnd_RD_readLocked_98 ?_
            refine xf_vret hX hE xnd_RD_readLocked_101 ?_
            refine ⟨rfl, ?_⟩
            rw [← hfin]
            simp only [xs_hit, hs6, h76, eq_true h90, if_true, if_false]
      have K : ∀ f, f = f0 → xf_V X 55 [some (.ref (xw_a P (18 + 1))), some (.int F)] [.int f, .ref (xw_a P (18 + 1))] (σ', τ) := by
        intro f hf0
        subst hf0
        refine xp_RD_keptItem hX 58 rfl hr xk_RD_81 xnd_RD_readLocked_55 ?_
        refine xf_aload_n hX 59 rfl 0 xnd_RD_readLocked_58 rfl rfl ?_
        refine xg_RD_keptItem hX 62 rfl hr xk_RD_81 xnd_RD_readLocked_59 ?_
        change xf_V X 62 _ [.int f] _
        refine xf_iconst hX 63 rfl (-1) xnd_RD_readLocked_62 (by decide) ?_
        refine xf_icmp_eq hX 66 rfl 70 xnd_RD_readLocked_63 (by decide) (fun h63 => ?_) (fun h63 => ?_)
        · exact K2 _ rfl (by rw [← hFin, if_pos h63])
        · refine xf_aload_n hX 67 rfl 0 xnd_RD_readLocked_66 rfl rfl ?_
          refine xf_V0v hX 70 rfl (xc_copy P _ _ _ hr (hfi h63)) xq_RD_copyItem xk_RD_51 (xrX_RD hr) rfl rfl xnd_RD_readLocked_67 ?_
          exact K2 _ rfl (by rw [← hFin, if_neg h63])
      refine xf_aload_n hX 1 rfl 0 xnd_RD_readLocked_0 rfl rfl ?_
      refine xg_RD_writer hX 4 rfl hr xk_RD_15 xnd_RD_readLocked_1 ?_
      refine xf_V0i hX 7 rfl (xc_uw P _ _) xq_WR_isUnderWay xk_RD_111 xrX_WR rfl rfl xnd_RD_readLocked_4 ?_
      rw [hu0]
      refine xf_if_eq hX 10 rfl 24 xnd_RD_readLocked_7 (by decide) (fun _ => ?_) (fun h7 => absurd rfl h7)
      refine xf_aload_n hX 25 rfl 0 xnd_RD_readLocked_24 rfl rfl ?_
      refine xg_RD_store hX 28 rfl hr xk_RD_9 xnd_RD_readLocked_25 ?_
      refine xf_aload_n hX 29 rfl 0 xnd_RD_readLocked_28 rfl rfl ?_
      refine xg_RD_key hX 32 rfl hr xk_RD_31 xnd_RD_readLocked_29 ?_
      refine xf_V1i hX 35 rfl (xc_lk P _ _ _ ho) xq_ST_lookUp xk_RD_117 xrX_ST rfl rfl xnd_RD_readLocked_32 ?_
      rw [hs, hF]
      refine xf_istore_n hX 36 rfl 1 xnd_RD_readLocked_35 rfl (by decide) ?_
      dsimp only [List.set]
      refine xf_aload_n hX 37 rfl 0 xnd_RD_readLocked_36 rfl rfl ?_
      refine xf_iload_n hX 38 rfl 1 xnd_RD_readLocked_37 rfl rfl ?_
      refine xf_iconst hX 39 rfl (-1) xnd_RD_readLocked_38 (by decide) ?_
      refine xf_icmp_eq hX 42 rfl 54 xnd_RD_readLocked_39 (by decide) (fun h39 => ?_) (fun h39 => ?_)
      · refine xf_iconst hX 55 rfl (-1) xnd_RD_readLocked_54 (by decide) ?_
        exact K _ (by rw [← hfe, if_pos h39])
      · refine xf_aload_n hX 43 rfl 0 xnd_RD_readLocked_42 rfl rfl ?_
        refine xg_RD_store hX 46 rfl hr xk_RD_9 xnd_RD_readLocked_43 ?_
        refine xg_ST_places hX 49 rfl xk_RD_77 xnd_RD_readLocked_46 ?_
        refine xf_iload_n hX 50 rfl 1 xnd_RD_readLocked_49 rfl rfl ?_
        refine xaX_iaload hX 51 rfl rfl (hFi h39) xnd_RD_readLocked_50 ?_
        rw [hs2]
        refine xf_goto hX 55 xnd_RD_readLocked_51 (by decide) ?_
        exact K _ (by rw [← hfe, if_neg h39])
  · have hw := ho.2
    by_cases hu : σ.1 9 = 0
    · have hu1 : xs_uw σ = 1 := by unfold xs_uw; rw [if_pos hu]
      refine xf_aload_n hX 1 rfl 0 xnd_RD_readLocked_0 rfl rfl ?_
      refine xg_RD_writer hX 4 rfl hr xk_RD_15 xnd_RD_readLocked_1 ?_
      refine xf_V0i hX 7 rfl (xc_uw P _ _) xq_WR_isUnderWay xk_RD_111 xrX_WR rfl rfl xnd_RD_readLocked_4 ?_
      rw [hu1]
      refine xf_if_eq hX 10 rfl 24 xnd_RD_readLocked_7 (by decide) (fun h7 => absurd h7 (by decide)) (fun _ => ?_)
      refine xf_aload_n hX 11 rfl 0 xnd_RD_readLocked_10 rfl rfl ?_
      refine xg_RD_tally hX 14 rfl hr xk_RD_19 xnd_RD_readLocked_11 ?_
      refine xf_dup hX 15 rfl xnd_RD_readLocked_14 rfl ?_
      refine xg_TA_waits hX 18 rfl xk_RD_68 xnd_RD_readLocked_15 ?_
      refine xf_iconst hX 19 rfl (1) xnd_RD_readLocked_18 (by decide) ?_
      refine xf_iadd hX 20 rfl xnd_RD_readLocked_19 ?_
      refine xp_TA_waits hX 23 rfl xk_RD_68 xnd_RD_readLocked_20 ?_
      refine xf_vret hX hE xnd_RD_readLocked_23 ?_
      refine ⟨rfl, ?_⟩
      simp only [xs_lck, eq_true hu, if_true]
    · have hu0 : xs_uw σ = 0 := by unfold xs_uw; rw [if_neg hu]
      have hs2 := xs_lk_2 (xw_w P) σ (σ.1 (24 + 8 * 2 + 3))
      have hfd := ho.find (σ.1 (24 + 8 * 2 + 3))
      have hfv := ho.fnd (σ.1 (24 + 8 * 2 + 3))
      have hfe : (if xs_find (xw_w P) σ (σ.1 (24 + 8 * 2 + 3)) = -1 then -1 else σ.2 5 (xs_find (xw_w P) σ (σ.1 (24 + 8 * 2 + 3))).toNatClampNeg) = xs_fnd (xw_w P) σ (σ.1 (24 + 8 * 2 + 3)) := rfl
      have hFin : (if xs_fnd (xw_w P) σ (σ.1 (24 + 8 * 2 + 3)) = -1 then xs_endR (24 + 8 * 2) (xs_lck1 (xw_w P) (24 + 8 * 2) σ) (xs_hit (24 + 8 * 2) (xs_lck1 (xw_w P) (24 + 8 * 2) σ)) else xs_endR (24 + 8 * 2) (xs_copy (24 + 8 * 2) (xs_lck1 (xw_w P) (24 + 8 * 2) σ)) (xs_hit (24 + 8 * 2) (xs_copy (24 + 8 * 2) (xs_lck1 (xw_w P) (24 + 8 * 2) σ)))) = xs_lck (xw_w P) (24 + 8 * 2) σ := by unfold xs_lck; rw [if_neg hu]
      have hl1 : xs_lck1 (xw_w P) (24 + 8 * 2) σ = xf_I (xs_lk (xw_w P) σ (σ.1 (24 + 8 * 2 + 3))) (24 + 8 * 2 + 6) (xs_fnd (xw_w P) σ (σ.1 (24 + 8 * 2 + 3))) := rfl
      rw [hl1] at hFin
      generalize hs : xs_lk (xw_w P) σ (σ.1 (24 + 8 * 2 + 3)) = σ' at hs2 hFin
      generalize hF : xs_find (xw_w P) σ (σ.1 (24 + 8 * 2 + 3)) = F at hfd hfe
      generalize xs_fnd (xw_w P) σ (σ.1 (24 + 8 * 2 + 3)) = f0 at hFin hfv hfe
      generalize xs_lck (xw_w P) (24 + 8 * 2) σ = FIN at hE hFin
      have hfi : ¬ f0 = -1 → vp_in f0 (xw_n P) := fun h0 => hfv.resolve_left h0
      have hFi : ¬ F = -1 → vp_in F (8 * (xw_w P)) := by
        intro h9
        rcases hfd with g | ⟨q, g1, g2, -⟩
        · exact absurd g h9
        · exact xs_in g2 g1 (by omega)
      have K2 : ∀ s, s.1 (24 + 8 * 2 + 6) = f0 → xs_endR (24 + 8 * 2) s (xs_hit (24 + 8 * 2) s) = FIN → xf_V X 70 [some (.ref (xw_a P (18 + 2))), some (.int F)] [] (s, τ) := by
        intro s hs6 hfin
        refine xf_aload_n hX 71 rfl 0 xnd_RD_readLocked_70 rfl rfl ?_
        refine xf_aload_n hX 72 rfl 0 xnd_RD_readLocked_71 rfl rfl ?_
        refine xg_RD_keptItem hX 75 rfl hr xk_RD_81 xnd_RD_readLocked_72 ?_
        rw [hs6]
        refine xf_iconst hX 76 rfl (-1) xnd_RD_readLocked_75 (by decide) ?_
        refine xf_icmp_eq hX 79 rfl 97 xnd_RD_readLocked_76 (by decide) (fun h76 => ?_) (fun h76 => ?_)
        · refine xf_iconst hX 98 rfl (0) xnd_RD_readLocked_97 (by decide) ?_
          refine xf_V1v hX 101 rfl (xc_endR P _ _ _ hr 0 (fun h0 => absurd rfl h0)) xq_RD_end xk_RD_107 (xrX_RD hr) rfl rfl xnd_RD_readLocked_98 ?_
          refine xf_vret hX hE xnd_RD_readLocked_101 ?_
          refine ⟨rfl, ?_⟩
          rw [← hfin]
          simp only [xs_hit, hs6, eq_true h76, if_true, if_false]
        · refine xf_aload_n hX 80 rfl 0 xnd_RD_readLocked_79 rfl rfl ?_
          refine xg_RD_store hX 83 rfl hr xk_RD_9 xnd_RD_readLocked_80 ?_
          refine xf_aload_n hX 84 rfl 0 xnd_RD_readLocked_83 rfl rfl ?_
          refine xg_RD_copiedExpiry hX 87 rfl hr xk_RD_99 xnd_RD_readLocked_84 ?_
          refine xf_V1i hX 90 rfl (xc_isOver P _ _ _) xq_ST_isOver xk_RD_103 xrX_ST rfl rfl xnd_RD_readLocked_87 ?_
          refine xf_if_ne hX 93 rfl 97 xnd_RD_readLocked_90 (by decide) (fun h90 => ?_) (fun h90 => ?_)
          · refine xf_iconst hX 98 rfl (0) xnd_RD_readLocked_97 (by decide) ?_
            refine xf_V1v hX 101 rfl (xc_endR P _ _ _ hr _ (fun _ => by rw [hs6]; exact hfi h76)) xq_RD_end xk_RD_107 (xrX_RD hr) rfl rfl xnd_RD_readLocked_98 ?_
            refine xf_vret hX hE xnd_RD_readLocked_101 ?_
            refine ⟨rfl, ?_⟩
            rw [← hfin]
            simp only [xs_hit, hs6, h76, h90, if_true, if_false]
          · refine xf_iconst hX 94 rfl (1) xnd_RD_readLocked_93 (by decide) ?_
            refine xf_goto hX 98 xnd_RD_readLocked_94 (by decide) ?_
            refine xf_V1v hX 101 rfl (xc_endR P _ _ _ hr _ (fun _ => by rw [hs6]; exact hfi h76)) xq_RD_end xk_RD_107 (xrX_RD hr) rfl rfl xnd_RD_readLocked_98 ?_
            refine xf_vret hX hE xnd_RD_readLocked_101 ?_
            refine ⟨rfl, ?_⟩
            rw [← hfin]
            simp only [xs_hit, hs6, h76, eq_true h90, if_true, if_false]
      have K : ∀ f, f = f0 → xf_V X 55 [some (.ref (xw_a P (18 + 2))), some (.int F)] [.int f, .ref (xw_a P (18 + 2))] (σ', τ) := by
        intro f hf0
        subst hf0
        refine xp_RD_keptItem hX 58 rfl hr xk_RD_81 xnd_RD_readLocked_55 ?_
        refine xf_aload_n hX 59 rfl 0 xnd_RD_readLocked_58 rfl rfl ?_
        refine xg_RD_keptItem hX 62 rfl hr xk_RD_81 xnd_RD_readLocked_59 ?_
        change xf_V X 62 _ [.int f] _
        refine xf_iconst hX 63 rfl (-1) xnd_RD_readLocked_62 (by decide) ?_
        refine xf_icmp_eq hX 66 rfl 70 xnd_RD_readLocked_63 (by decide) (fun h63 => ?_) (fun h63 => ?_)
        · exact K2 _ rfl (by rw [← hFin, if_pos h63])
        · refine xf_aload_n hX 67 rfl 0 xnd_RD_readLocked_66 rfl rfl ?_
          refine xf_V0v hX 70 rfl (xc_copy P _ _ _ hr (hfi h63)) xq_RD_copyItem xk_RD_51 (xrX_RD hr) rfl rfl xnd_RD_readLocked_67 ?_
          exact K2 _ rfl (by rw [← hFin, if_neg h63])
      refine xf_aload_n hX 1 rfl 0 xnd_RD_readLocked_0 rfl rfl ?_
      refine xg_RD_writer hX 4 rfl hr xk_RD_15 xnd_RD_readLocked_1 ?_
      refine xf_V0i hX 7 rfl (xc_uw P _ _) xq_WR_isUnderWay xk_RD_111 xrX_WR rfl rfl xnd_RD_readLocked_4 ?_
      rw [hu0]
      refine xf_if_eq hX 10 rfl 24 xnd_RD_readLocked_7 (by decide) (fun _ => ?_) (fun h7 => absurd rfl h7)
      refine xf_aload_n hX 25 rfl 0 xnd_RD_readLocked_24 rfl rfl ?_
      refine xg_RD_store hX 28 rfl hr xk_RD_9 xnd_RD_readLocked_25 ?_
      refine xf_aload_n hX 29 rfl 0 xnd_RD_readLocked_28 rfl rfl ?_
      refine xg_RD_key hX 32 rfl hr xk_RD_31 xnd_RD_readLocked_29 ?_
      refine xf_V1i hX 35 rfl (xc_lk P _ _ _ ho) xq_ST_lookUp xk_RD_117 xrX_ST rfl rfl xnd_RD_readLocked_32 ?_
      rw [hs, hF]
      refine xf_istore_n hX 36 rfl 1 xnd_RD_readLocked_35 rfl (by decide) ?_
      dsimp only [List.set]
      refine xf_aload_n hX 37 rfl 0 xnd_RD_readLocked_36 rfl rfl ?_
      refine xf_iload_n hX 38 rfl 1 xnd_RD_readLocked_37 rfl rfl ?_
      refine xf_iconst hX 39 rfl (-1) xnd_RD_readLocked_38 (by decide) ?_
      refine xf_icmp_eq hX 42 rfl 54 xnd_RD_readLocked_39 (by decide) (fun h39 => ?_) (fun h39 => ?_)
      · refine xf_iconst hX 55 rfl (-1) xnd_RD_readLocked_54 (by decide) ?_
        exact K _ (by rw [← hfe, if_pos h39])
      · refine xf_aload_n hX 43 rfl 0 xnd_RD_readLocked_42 rfl rfl ?_
        refine xg_RD_store hX 46 rfl hr xk_RD_9 xnd_RD_readLocked_43 ?_
        refine xg_ST_places hX 49 rfl xk_RD_77 xnd_RD_readLocked_46 ?_
        refine xf_iload_n hX 50 rfl 1 xnd_RD_readLocked_49 rfl rfl ?_
        refine xaX_iaload hX 51 rfl rfl (hFi h39) xnd_RD_readLocked_50 ?_
        rw [hs2]
        refine xf_goto hX 55 xnd_RD_readLocked_51 (by decide) ?_
        exact K _ (by rw [← hfe, if_neg h39])

/-- what a step of a reader needs -/
def xs_okR (n w z : Nat) (σ : xf_T) : Prop := xs_okP n w σ ∧ (σ.1 z = 4 → vp_in (σ.1 (z + 6)) n) ∧ (σ.1 z = 5 → ¬ σ.1 (z + 6) = -1 → vp_in (σ.1 (z + 6)) n)
set_option maxRecDepth 100000 in
set_option maxHeartbeats 4000000 in
theorem xc_goR (P : xw_T) (σ τ : xf_T) (r : Nat) (hr : r < 3) (hk : xs_okR (xw_n P) (xw_w P) (24 + 8 * r) σ) : xf_F (xw_l P) xny_RD_goOn xnc_RD_goOn 1 none 6 124 (xw_W P) (xw_D P) (xw_ty P) [.ref (xw_a P (18 + r))] (σ, τ) none (xs_goR (xw_w P) (24 + 8 * r) σ, τ) := by
  refine xf_start (own := xnR_RD) [some (.ref (xw_a P (18 + r)))] rfl (by decide) (Nat.le_of_ble_eq_true rfl) rfl (xf_cat rfl) ?_
  intro X hX hE
  have h9 : r = 0 ∨ r = 1 ∨ r = 2 := by omega
  rcases h9 with rfl | rfl | rfl
  · refine xf_aload_n hX 1 rfl 0 xnd_RD_goOn_0 rfl rfl ?_
    refine xg_RD_state hX 4 rfl hr xk_RD_23 xnd_RD_goOn_1 ?_
    by_cases c4_1 : σ.1 (24 + 8 * 0) = 1
    · rw [c4_1]
      refine xf_tabIn hX 40 xnd_RD_goOn_4 (by decide) (by decide) rfl (by decide) ?_
      refine xf_aload_n hX 41 rfl 0 xnd_RD_goOn_40 rfl rfl ?_
      refine xf_V0v hX 44 rfl (xc_kpV P _ _ _ hr) xq_RD_keepVersion xk_RD_37 (xrX_RD hr) rfl rfl xnd_RD_goOn_41 ?_
      refine xf_goto hX 100 xnd_RD_goOn_44 (by decide) ?_
      refine xf_vret hX hE xnd_RD_goOn_100 ?_
      refine ⟨rfl, ?_⟩
      simp only [xs_goR, eq_true c4_1, if_true, if_false]
    by_cases c4_2 : σ.1 (24 + 8 * 0) = 2
    · rw [c4_2]
      refine xf_tabIn hX 47 xnd_RD_goOn_4 (by decide) (by decide) rfl (by decide) ?_
      refine xf_aload_n hX 48 rfl 0 xnd_RD_goOn_47 rfl rfl ?_
      refine xf_aload_n hX 49 rfl 0 xnd_RD_goOn_48 rfl rfl ?_
      refine xg_RD_key hX 52 rfl hr xk_RD_31 xnd_RD_goOn_49 ?_
      refine xf_T1i hX 55 rfl (xc_firstBucket P _ _ _) xq_SC_firstBucket xk_RD_40 rfl rfl xnd_RD_goOn_52 ?_
      refine xf_iconst hX 56 rfl (3) xnd_RD_goOn_55 (by decide) ?_
      refine xf_V2v hX 59 rfl (xc_into P _ _ _ hr _ _ hk.1 (xs_b1_is _)) xq_RD_lookInto xk_RD_44 (xrX_RD hr) rfl rfl xnd_RD_goOn_56 ?_
      refine xf_goto hX 100 xnd_RD_goOn_59 (by decide) ?_
      refine xf_vret hX hE xnd_RD_goOn_100 ?_
      refine ⟨rfl, ?_⟩
      simp only [xs_goR, c4_1, eq_true c4_2, if_true, if_false]
    by_cases c4_3 : σ.1 (24 + 8 * 0) = 3
    · rw [c4_3]
      refine xf_tabIn hX 62 xnd_RD_goOn_4 (by decide) (by decide) rfl (by decide) ?_
      refine xf_aload_n hX 63 rfl 0 xnd_RD_goOn_62 rfl rfl ?_
      refine xf_aload_n hX 64 rfl 0 xnd_RD_goOn_63 rfl rfl ?_
      refine xg_RD_key hX 67 rfl hr xk_RD_31 xnd_RD_goOn_64 ?_
      refine xf_T1i hX 70 rfl (xc_secondBucket P _ _ _) xq_SC_secondBucket xk_RD_48 rfl rfl xnd_RD_goOn_67 ?_
      refine xf_iconst hX 71 rfl (5) xnd_RD_goOn_70 (by decide) ?_
      refine xf_V2v hX 74 rfl (xc_into P _ _ _ hr _ _ hk.1 (xs_b2_is _)) xq_RD_lookInto xk_RD_44 (xrX_RD hr) rfl rfl xnd_RD_goOn_71 ?_
      refine xf_goto hX 100 xnd_RD_goOn_74 (by decide) ?_
      refine xf_vret hX hE xnd_RD_goOn_100 ?_
      refine ⟨rfl, ?_⟩
      simp only [xs_goR, c4_1, c4_2, eq_true c4_3, if_true, if_false]
    by_cases c4_4 : σ.1 (24 + 8 * 0) = 4
    · rw [c4_4]
      refine xf_tabIn hX 77 xnd_RD_goOn_4 (by decide) (by decide) rfl (by decide) ?_
      refine xf_aload_n hX 78 rfl 0 xnd_RD_goOn_77 rfl rfl ?_
      refine xf_V0v hX 81 rfl (xc_copy P _ _ _ hr (hk.2.1 c4_4)) xq_RD_copyItem xk_RD_51 (xrX_RD hr) rfl rfl xnd_RD_goOn_78 ?_
      refine xf_aload_n hX 82 rfl 0 xnd_RD_goOn_81 rfl rfl ?_
      refine xf_iconst hX 83 rfl (5) xnd_RD_goOn_82 (by decide) ?_
      refine xp_RD_state hX 86 rfl hr xk_RD_23 xnd_RD_goOn_83 ?_
      refine xf_goto hX 100 xnd_RD_goOn_86 (by decide) ?_
      refine xf_vret hX hE xnd_RD_goOn_100 ?_
      refine ⟨rfl, ?_⟩
      simp only [xs_goR, c4_1, c4_2, c4_3, eq_true c4_4, if_true, if_false]
    by_cases c4_5 : σ.1 (24 + 8 * 0) = 5
    · rw [c4_5]
      refine xf_tabIn hX 89 xnd_RD_goOn_4 (by decide) (by decide) rfl (by decide) ?_
      refine xf_aload_n hX 90 rfl 0 xnd_RD_goOn_89 rfl rfl ?_
      refine xf_V0v hX 93 rfl (xc_chk P _ _ _ hr (hk.2.2 c4_5)) xq_RD_checkVersion xk_RD_54 (xrX_RD hr) rfl rfl xnd_RD_goOn_90 ?_
      refine xf_goto hX 100 xnd_RD_goOn_93 (by decide) ?_
      refine xf_vret hX hE xnd_RD_goOn_100 ?_
      refine ⟨rfl, ?_⟩
      simp only [xs_goR, c4_1, c4_2, c4_3, c4_4, eq_true c4_5, if_true, if_false]
    have n0 := lv_neT c4_1 (by decide : ((1 : Int32)).toInt = 1)
    have n1 := lv_neT c4_2 (by decide : ((2 : Int32)).toInt = 2)
    have n2 := lv_neT c4_3 (by decide : ((3 : Int32)).toInt = 3)
    have n3 := lv_neT c4_4 (by decide : ((4 : Int32)).toInt = 4)
    have n4 := lv_neT c4_5 (by decide : ((5 : Int32)).toInt = 5)
    refine xf_tabOut hX 96 xnd_RD_goOn_4 (by omega) (by decide) ?_
    refine xf_aload_n hX 97 rfl 0 xnd_RD_goOn_96 rfl rfl ?_
    refine xf_V0v hX 100 rfl (xc_lck P _ _ _ hr hk.1) xq_RD_readLocked xk_RD_57 (xrX_RD hr) rfl rfl xnd_RD_goOn_97 ?_
    refine xf_vret hX hE xnd_RD_goOn_100 ?_
    refine ⟨rfl, ?_⟩
    simp only [xs_goR, c4_1, c4_2, c4_3, c4_4, c4_5, if_true, if_false]
  · refine xf_aload_n hX 1 rfl 0 xnd_RD_goOn_0 rfl rfl ?_
    refine xg_RD_state hX 4 rfl hr xk_RD_23 xnd_RD_goOn_1 ?_
    by_cases c4_1 : σ.1 (24 + 8 * 1) = 1
    · rw [c4_1]
      refine xf_tabIn hX 40 xnd_RD_goOn_4 (by decide) (by decide) rfl (by decide) ?_
      refine xf_aload_n hX 41 rfl 0 xnd_RD_goOn_40 rfl rfl ?_
      refine xf_V0v hX 44 rfl (xc_kpV P _ _ _ hr) xq_RD_keepVersion xk_RD_37 (xrX_RD hr) rfl rfl xnd_RD_goOn_41 ?_
      refine xf_goto hX 100 xnd_RD_goOn_44 (by decide) ?_
      refine xf_vret hX hE xnd_RD_goOn_100 ?_
      refine ⟨rfl, ?_⟩
      simp only [xs_goR, eq_true c4_1, if_true, if_false]
    by_cases c4_2 : σ.1 (24 + 8 * 1) = 2
    · rw [c4_2]
      refine xf_tabIn hX 47 xnd_RD_goOn_4 (by decide) (by decide) rfl (by decide) ?_
      refine xf_aload_n hX 48 rfl 0 xnd_RD_goOn_47 rfl rfl ?_
      refine xf_aload_n hX 49 rfl 0 xnd_RD_goOn_48 rfl rfl ?_
      refine xg_RD_key hX 52 rfl hr xk_RD_31 xnd_RD_goOn_49 ?_
      refine xf_T1i hX 55 rfl (xc_firstBucket P _ _ _) xq_SC_firstBucket xk_RD_40 rfl rfl xnd_RD_goOn_52 ?_
      refine xf_iconst hX 56 rfl (3) xnd_RD_goOn_55 (by decide) ?_
      refine xf_V2v hX 59 rfl (xc_into P _ _ _ hr _ _ hk.1 (xs_b1_is _)) xq_RD_lookInto xk_RD_44 (xrX_RD hr) rfl rfl xnd_RD_goOn_56 ?_
      refine xf_goto hX 100 xnd_RD_goOn_59 (by decide) ?_
      refine xf_vret hX hE xnd_RD_goOn_100 ?_
      refine ⟨rfl, ?_⟩
      simp only [xs_goR, c4_1, eq_true c4_2, if_true, if_false]
    by_cases c4_3 : σ.1 (24 + 8 * 1) = 3
    · rw [c4_3]
      refine xf_tabIn hX 62 xnd_RD_goOn_4 (by decide) (by decide) rfl (by decide) ?_
      refine xf_aload_n hX 63 rfl 0 xnd_RD_goOn_62 rfl rfl ?_
      refine xf_aload_n hX 64 rfl 0 xnd_RD_goOn_63 rfl rfl ?_
      refine xg_RD_key hX 67 rfl hr xk_RD_31 xnd_RD_goOn_64 ?_
      refine xf_T1i hX 70 rfl (xc_secondBucket P _ _ _) xq_SC_secondBucket xk_RD_48 rfl rfl xnd_RD_goOn_67 ?_
      refine xf_iconst hX 71 rfl (5) xnd_RD_goOn_70 (by decide) ?_
      refine xf_V2v hX 74 rfl (xc_into P _ _ _ hr _ _ hk.1 (xs_b2_is _)) xq_RD_lookInto xk_RD_44 (xrX_RD hr) rfl rfl xnd_RD_goOn_71 ?_
      refine xf_goto hX 100 xnd_RD_goOn_74 (by decide) ?_
      refine xf_vret hX hE xnd_RD_goOn_100 ?_
      refine ⟨rfl, ?_⟩
      simp only [xs_goR, c4_1, c4_2, eq_true c4_3, if_true, if_false]
    by_cases c4_4 : σ.1 (24 + 8 * 1) = 4
    · rw [c4_4]
      refine xf_tabIn hX 77 xnd_RD_goOn_4 (by decide) (by decide) rfl (by decide) ?_
      refine xf_aload_n hX 78 rfl 0 xnd_RD_goOn_77 rfl rfl ?_
      refine xf_V0v hX 81 rfl (xc_copy P _ _ _ hr (hk.2.1 c4_4)) xq_RD_copyItem xk_RD_51 (xrX_RD hr) rfl rfl xnd_RD_goOn_78 ?_
      refine xf_aload_n hX 82 rfl 0 xnd_RD_goOn_81 rfl rfl ?_
      refine xf_iconst hX 83 rfl (5) xnd_RD_goOn_82 (by decide) ?_
      refine xp_RD_state hX 86 rfl hr xk_RD_23 xnd_RD_goOn_83 ?_
      refine xf_goto hX 100 xnd_RD_goOn_86 (by decide) ?_
      refine xf_vret hX hE xnd_RD_goOn_100 ?_
      refine ⟨rfl, ?_⟩
      simp only [xs_goR, c4_1, c4_2, c4_3, eq_true c4_4, if_true, if_false]
    by_cases c4_5 : σ.1 (24 + 8 * 1) = 5
    · rw [c4_5]
      refine xf_tabIn hX 89 xnd_RD_goOn_4 (by decide) (by decide) rfl (by decide) ?_
      refine xf_aload_n hX 90 rfl 0 xnd_RD_goOn_89 rfl rfl ?_
      refine xf_V0v hX 93 rfl (xc_chk P _ _ _ hr (hk.2.2 c4_5)) xq_RD_checkVersion xk_RD_54 (xrX_RD hr) rfl rfl xnd_RD_goOn_90 ?_
      refine xf_goto hX 100 xnd_RD_goOn_93 (by decide) ?_
      refine xf_vret hX hE xnd_RD_goOn_100 ?_
      refine ⟨rfl, ?_⟩
      simp only [xs_goR, c4_1, c4_2, c4_3, c4_4, eq_true c4_5, if_true, if_false]
    have n0 := lv_neT c4_1 (by decide : ((1 : Int32)).toInt = 1)
    have n1 := lv_neT c4_2 (by decide : ((2 : Int32)).toInt = 2)
    have n2 := lv_neT c4_3 (by decide : ((3 : Int32)).toInt = 3)
    have n3 := lv_neT c4_4 (by decide : ((4 : Int32)).toInt = 4)
    have n4 := lv_neT c4_5 (by decide : ((5 : Int32)).toInt = 5)
    refine xf_tabOut hX 96 xnd_RD_goOn_4 (by omega) (by decide) ?_
    refine xf_aload_n hX 97 rfl 0 xnd_RD_goOn_96 rfl rfl ?_
    refine xf_V0v hX 100 rfl (xc_lck P _ _ _ hr hk.1) xq_RD_readLocked xk_RD_57 (xrX_RD hr) rfl rfl xnd_RD_goOn_97 ?_
    refine xf_vret hX hE xnd_RD_goOn_100 ?_
    refine ⟨rfl, ?_⟩
    simp only [xs_goR, c4_1, c4_2, c4_3, c4_4, c4_5, if_true, if_false]
  · refine xf_aload_n hX 1 rfl 0 xnd_RD_goOn_0 rfl rfl ?_
    refine xg_RD_state hX 4 rfl hr xk_RD_23 xnd_RD_goOn_1 ?_
    by_cases c4_1 : σ.1 (24 + 8 * 2) = 1
    · rw [c4_1]
      refine xf_tabIn hX 40 xnd_RD_goOn_4 (by decide) (by decide) rfl (by decide) ?_
      refine xf_aload_n hX 41 rfl 0 xnd_RD_goOn_40 rfl rfl ?_
      refine xf_V0v hX 44 rfl (xc_kpV P _ _ _ hr) xq_RD_keepVersion xk_RD_37 (xrX_RD hr) rfl rfl xnd_RD_goOn_41 ?_
      refine xf_goto hX 100 xnd_RD_goOn_44 (by decide) ?_
      refine xf_vret hX hE xnd_RD_goOn_100 ?_
      refine ⟨rfl, ?_⟩
      simp only [xs_goR, eq_true c4_1, if_true, if_false]
    by_cases c4_2 : σ.1 (24 + 8 * 2) = 2
    · rw [c4_2]
      refine xf_tabIn hX 47 xnd_RD_goOn_4 (by decide) (by decide) rfl (by decide) ?_
      refine xf_aload_n hX 48 rfl 0 xnd_RD_goOn_47 rfl rfl ?_
      refine xf_aload_n hX 49 rfl 0 xnd_RD_goOn_48 rfl rfl ?_
      refine xg_RD_key hX 52 rfl hr xk_RD_31 xnd_RD_goOn_49 ?_
      refine xf_T1i hX 55 rfl (xc_firstBucket P _ _ _) xq_SC_firstBucket xk_RD_40 rfl rfl xnd_RD_goOn_52 ?_
      refine xf_iconst hX 56 rfl (3) xnd_RD_goOn_55 (by decide) ?_
      refine xf_V2v hX 59 rfl (xc_into P _ _ _ hr _ _ hk.1 (xs_b1_is _)) xq_RD_lookInto xk_RD_44 (xrX_RD hr) rfl rfl xnd_RD_goOn_56 ?_
      refine xf_goto hX 100 xnd_RD_goOn_59 (by decide) ?_
      refine xf_vret hX hE xnd_RD_goOn_100 ?_
      refine ⟨rfl, ?_⟩
      simp only [xs_goR, c4_1, eq_true c4_2, if_true, if_false]
    by_cases c4_3 : σ.1 (24 + 8 * 2) = 3
    · rw [c4_3]
      refine xf_tabIn hX 62 xnd_RD_goOn_4 (by decide) (by decide) rfl (by decide) ?_
      refine xf_aload_n hX 63 rfl 0 xnd_RD_goOn_62 rfl rfl ?_
      refine xf_aload_n hX 64 rfl 0 xnd_RD_goOn_63 rfl rfl ?_
      refine xg_RD_key hX 67 rfl hr xk_RD_31 xnd_RD_goOn_64 ?_
      refine xf_T1i hX 70 rfl (xc_secondBucket P _ _ _) xq_SC_secondBucket xk_RD_48 rfl rfl xnd_RD_goOn_67 ?_
      refine xf_iconst hX 71 rfl (5) xnd_RD_goOn_70 (by decide) ?_
      refine xf_V2v hX 74 rfl (xc_into P _ _ _ hr _ _ hk.1 (xs_b2_is _)) xq_RD_lookInto xk_RD_44 (xrX_RD hr) rfl rfl xnd_RD_goOn_71 ?_
      refine xf_goto hX 100 xnd_RD_goOn_74 (by decide) ?_
      refine xf_vret hX hE xnd_RD_goOn_100 ?_
      refine ⟨rfl, ?_⟩
      simp only [xs_goR, c4_1, c4_2, eq_true c4_3, if_true, if_false]
    by_cases c4_4 : σ.1 (24 + 8 * 2) = 4
    · rw [c4_4]
      refine xf_tabIn hX 77 xnd_RD_goOn_4 (by decide) (by decide) rfl (by decide) ?_
      refine xf_aload_n hX 78 rfl 0 xnd_RD_goOn_77 rfl rfl ?_
      refine xf_V0v hX 81 rfl (xc_copy P _ _ _ hr (hk.2.1 c4_4)) xq_RD_copyItem xk_RD_51 (xrX_RD hr) rfl rfl xnd_RD_goOn_78 ?_
      refine xf_aload_n hX 82 rfl 0 xnd_RD_goOn_81 rfl rfl ?_
      refine xf_iconst hX 83 rfl (5) xnd_RD_goOn_82 (by decide) ?_
      refine xp_RD_state hX 86 rfl hr xk_RD_23 xnd_RD_goOn_83 ?_
      refine xf_goto hX 100 xnd_RD_goOn_86 (by decide) ?_
      refine xf_vret hX hE xnd_RD_goOn_100 ?_
      refine ⟨rfl, ?_⟩
      simp only [xs_goR, c4_1, c4_2, c4_3, eq_true c4_4, if_true, if_false]
    by_cases c4_5 : σ.1 (24 + 8 * 2) = 5
    · rw [c4_5]
      refine xf_tabIn hX 89 xnd_RD_goOn_4 (by decide) (by decide) rfl (by decide) ?_
      refine xf_aload_n hX 90 rfl 0 xnd_RD_goOn_89 rfl rfl ?_
      refine xf_V0v hX 93 rfl (xc_chk P _ _ _ hr (hk.2.2 c4_5)) xq_RD_checkVersion xk_RD_54 (xrX_RD hr) rfl rfl xnd_RD_goOn_90 ?_
      refine xf_goto hX 100 xnd_RD_goOn_93 (by decide) ?_
      refine xf_vret hX hE xnd_RD_goOn_100 ?_
      refine ⟨rfl, ?_⟩
      simp only [xs_goR, c4_1, c4_2, c4_3, c4_4, eq_true c4_5, if_true, if_false]
    have n0 := lv_neT c4_1 (by decide : ((1 : Int32)).toInt = 1)
    have n1 := lv_neT c4_2 (by decide : ((2 : Int32)).toInt = 2)
    have n2 := lv_neT c4_3 (by decide : ((3 : Int32)).toInt = 3)
    have n3 := lv_neT c4_4 (by decide : ((4 : Int32)).toInt = 4)
    have n4 := lv_neT c4_5 (by decide : ((5 : Int32)).toInt = 5)
    refine xf_tabOut hX 96 xnd_RD_goOn_4 (by omega) (by decide) ?_
    refine xf_aload_n hX 97 rfl 0 xnd_RD_goOn_96 rfl rfl ?_
    refine xf_V0v hX 100 rfl (xc_lck P _ _ _ hr hk.1) xq_RD_readLocked xk_RD_57 (xrX_RD hr) rfl rfl xnd_RD_goOn_97 ?_
    refine xf_vret hX hE xnd_RD_goOn_100 ?_
    refine ⟨rfl, ?_⟩
    simp only [xs_goR, c4_1, c4_2, c4_3, c4_4, c4_5, if_true, if_false]
end
section
/-! Contracts of the class: the face. Laid by wip/gen/class10.py. -/
def xs_z (r : Int32) : Nat := 24 + 8 * r.toNatClampNeg
def xs_wOK (σ : xf_T) (kind life : Int32) : Int32 := if xs_uw σ = 0 then (if xs_isW kind 0 4 = 0 then 0 else if xs_isW life 0 1000 = 0 then 0 else 1) else 0
def xs_write (σ : xf_T) (kind key nv life kt : Int32) : xf_T := if xs_wOK σ kind life = 0 then σ else xs_begin σ kind key nv life kt
def xs_getB (σ : xf_T) (r : Int32) : Int32 := if xs_isW r 0 2 = 0 then 0 else if xs_isW (σ.1 (24 + 8 * r.toNatClampNeg)) 1 6 = 0 then 1 else 0
def xs_get (σ : xf_T) (r key : Int32) : xf_T := if xs_getB σ r = 0 then σ else xf_I (xf_I (xf_I σ (24 + 8 * r.toNatClampNeg + 3) key) (24 + 8 * r.toNatClampNeg + 4) 0) (24 + 8 * r.toNatClampNeg) 1
def xs_stB (σ : xf_T) (r : Int32) : Int32 := if xs_isW r 0 2 = 0 then 0 else xs_isW (σ.1 (24 + 8 * r.toNatClampNeg)) 1 6
def xs_step (w : Nat) (σ : xf_T) (r : Int32) : xf_T := if xs_stB σ r = 0 then σ else xs_goR w (24 + 8 * r.toNatClampNeg) σ
def xs_stepV (w : Nat) (σ : xf_T) (r : Int32) : Int32 := if xs_stB σ r = 0 then -1 else (xs_goR w (24 + 8 * r.toNatClampNeg) σ).1 (24 + 8 * r.toNatClampNeg)
def xs_state (σ : xf_T) (r : Int32) : Int32 := if xs_isW r 0 2 = 0 then -1 else σ.1 (24 + 8 * r.toNatClampNeg)
def xs_hitB (σ : xf_T) (r : Int32) : Int32 := if xs_isW r 0 2 = 0 then 0 else if σ.1 (24 + 8 * r.toNatClampNeg) = 7 then 1 else 0
def xs_value (σ : xf_T) (r : Int32) (k : Nat) : Int32 := if xs_hitB σ r = 0 then 0 else σ.1 (24 + 8 * r.toNatClampNeg + k)
def xs_passB (k : Int32) : Int32 := if xs_isW k 1 1000 = 0 then 0 else 1
def xs_pass (σ : xf_T) (k : Int32) : xf_T := if xs_isW k 1 1000 = 0 then σ else xf_I σ 7 (σ.1 7 + k)
def xs_atp (w : Nat) (σ : xf_T) (p : Int32) : Int32 := if xs_isW p 0 (nI (8 * w) - 1) = 0 then -1 else σ.2 5 p.toNatClampNeg
def xs_used (n : Nat) (σ : xf_T) (i : Int32) : Int32 := if xs_isW i 0 (nI n - 1) = 0 then 0 else if σ.2 11 i.toNatClampNeg = 0 then 0 else 1
def xs_item (n : Nat) (σ : xf_T) (i k : Int32) : Int32 := if xs_used n σ i = 0 then 0 else if k = 0 then σ.2 6 i.toNatClampNeg else if k = 1 then σ.2 7 i.toNatClampNeg else if k = 2 then σ.2 8 i.toNatClampNeg else if k = 3 then σ.2 9 i.toNatClampNeg else if k = 4 then (if σ.2 10 i.toNatClampNeg = 0 then 0 else 1) else 0
def xs_version (σ : xf_T) (k : Int32) : Int32 := if xs_isW k 0 3 = 0 then -1 else σ.2 12 k.toNatClampNeg
def xs_count (σ : xf_T) (k : Int32) : Int32 := if k = 0 then σ.1 6 else if k = 1 then σ.1 0 else if k = 2 then σ.1 1 else if k = 3 then σ.1 2 else if k = 4 then σ.1 3 else if k = 5 then σ.1 4 else if k = 6 then σ.1 5 else if k = 7 then σ.1 7 else if k = 8 then σ.1 10 else if k = 9 then σ.1 8 else -1
def xs_wk (n w : Nat) (σ : xf_T) (k : Int32) : xf_T × Int32 := if xs_isW k 1 50 = 0 then (σ, 0) else xs_work n w k.toNatClampNeg σ 0
theorem xs_isW_in {x : Int32} {N : Nat} (h0 : 0 < N) (hN : N < 2 ^ 31) (h : ¬ xs_isW x 0 (nI N - 1) = 0) : vp_in x N := by
  unfold xs_isW at h
  by_cases h1 : x < 0
  · rw [if_pos h1] at h; exact absurd rfl h
  · rw [if_neg h1] at h
    by_cases h2 : nI N - 1 < x
    · rw [if_pos h2] at h; exact absurd rfl h
    · obtain ⟨j, hj, rfl⟩ := nI_of h1
      rw [show nI N - 1 = nI (N - 1) from pk_sub (a := N) (b := 1) (by omega), nI_ltI (by omega) hj] at h2
      exact vp_in_nI (by omega) hN
theorem xs_used_z (n : Nat) (σ : xf_T) (i : Int32) : narrow .boolean (.int (xs_used n σ i)) = .int (xs_used n σ i) := by
  unfold xs_used
  split
  · rfl
  · split <;> rfl
theorem xs_used_in {n : Nat} (h0 : 0 < n) (hn : n ≤ 32) {σ : xf_T} {i : Int32} (h : ¬ xs_used n σ i = 0) : vp_in i n := by
  unfold xs_used at h
  by_cases h1 : xs_isW i 0 (nI n - 1) = 0
  · rw [if_pos h1] at h; exact absurd rfl h
  · exact xs_isW_in h0 (by omega) h1
set_option maxRecDepth 100000 in
set_option maxHeartbeats 4000000 in
theorem xc_write (P : xw_T) (σ τ : xf_T) (kind key nv life kt : Int32) : xf_F (xw_l P) xny_SC_write xnc_SC_write 6 (some .boolean) 1 25 (xw_W P) (xw_D P) (xw_ty P) [.ref (xw_a P 0), .int kind, .int key, .int nv, .int life, .int kt] (σ, τ) (some (.int (xs_wOK σ kind life))) (xs_write σ kind key nv life kt, τ) := by
  refine xf_start (own := xnR_SC) [some (.ref (xw_a P 0)), some (.int kind), some (.int key), some (.int nv), some (.int life), some (.int kt)] rfl (by decide) (Nat.le_of_ble_eq_true rfl) rfl (xf_cat rfl) ?_
  intro X hX hE
  refine xf_aload_n hX 1 rfl 0 xnd_SC_write_0 rfl rfl ?_
  refine xg_SC_writer hX 4 rfl xk_SC_34 xnd_SC_write_1 ?_
  refine xf_V0i hX 7 rfl (xc_uw P _ _) xq_WR_isUnderWay xk_SC_47 xrX_WR rfl rfl xnd_SC_write_4 ?_
  refine xf_if_ne hX 10 rfl 31 xnd_SC_write_7 (by decide) (fun h7 => ?_) (fun h7 => ?_)
  · refine xf_iconst hX 32 rfl (0) xnd_SC_write_31 (by decide) ?_
    refine xf_zret hX hE xnd_SC_write_32 rfl ?_
    have e9 : xs_wOK σ kind life = 0 := by simp only [xs_wOK, h7, if_true, if_false]
    exact ⟨by rw [e9], by unfold xs_write; rw [if_pos e9]⟩
  · refine xf_iload_n hX 11 rfl 1 xnd_SC_write_10 rfl rfl ?_
    refine xf_iconst hX 12 rfl (0) xnd_SC_write_11 (by decide) ?_
    refine xf_iconst hX 13 rfl (4) xnd_SC_write_12 (by decide) ?_
    refine xf_S3i hX 16 rfl (xc_isW P _ _ _ _ _) xq_SC_isWithin xk_SC_18 rfl rfl xnd_SC_write_13 ?_
    refine xf_if_eq hX 19 rfl 31 xnd_SC_write_16 (by decide) (fun h16 => ?_) (fun h16 => ?_)
    · refine xf_iconst hX 32 rfl (0) xnd_SC_write_31 (by decide) ?_
      refine xf_zret hX hE xnd_SC_write_32 rfl ?_
      have e9 : xs_wOK σ kind life = 0 := by simp only [xs_wOK, eq_true h7, eq_true h16, if_true, if_false]
      exact ⟨by rw [e9], by unfold xs_write; rw [if_pos e9]⟩
    · refine xf_iload hX 21 rfl xnd_SC_write_19 rfl ?_
      refine xf_iconst hX 22 rfl (0) xnd_SC_write_21 (by decide) ?_
      refine xf_sipush hX 25 rfl (1000) xnd_SC_write_22 (by decide) ?_
      refine xf_S3i hX 28 rfl (xc_isW P _ _ _ _ _) xq_SC_isWithin xk_SC_18 rfl rfl xnd_SC_write_25 ?_
      refine xf_if_ne hX 31 rfl 33 xnd_SC_write_28 (by decide) (fun h28 => ?_) (fun h28 => ?_)
      · refine xf_aload_n hX 34 rfl 0 xnd_SC_write_33 rfl rfl ?_
        refine xg_SC_writer hX 37 rfl xk_SC_34 xnd_SC_write_34 ?_
        refine xf_iload_n hX 38 rfl 1 xnd_SC_write_37 rfl rfl ?_
        refine xf_iload_n hX 39 rfl 2 xnd_SC_write_38 rfl rfl ?_
        refine xf_iload_n hX 40 rfl 3 xnd_SC_write_39 rfl rfl ?_
        refine xf_iload hX 42 rfl xnd_SC_write_40 rfl ?_
        refine xf_iload hX 44 rfl xnd_SC_write_42 rfl ?_
        refine xf_V5v hX 47 rfl (xc_wbegin P _ _ _ _ _ _ _) xq_WR_begin xk_SC_51 xrX_WR rfl rfl xnd_SC_write_44 ?_
        refine xf_iconst hX 48 rfl (1) xnd_SC_write_47 (by decide) ?_
        refine xf_zret hX hE xnd_SC_write_48 rfl ?_
        have e9 : xs_wOK σ kind life = 1 := by simp only [xs_wOK, eq_true h7, h16, h28, if_true, if_false]
        exact ⟨by rw [e9], by unfold xs_write; rw [e9, if_neg (by decide)]⟩
      · refine xf_iconst hX 32 rfl (0) xnd_SC_write_31 (by decide) ?_
        refine xf_zret hX hE xnd_SC_write_32 rfl ?_
        have e9 : xs_wOK σ kind life = 0 := by simp only [xs_wOK, eq_true h7, h16, eq_true h28, if_true, if_false]
        exact ⟨by rw [e9], by unfold xs_write; rw [if_pos e9]⟩

set_option maxRecDepth 100000 in
set_option maxHeartbeats 4000000 in
theorem xc_outcome (P : xw_T) (σ τ : xf_T) : xf_F (xw_l P) xny_SC_outcome xnc_SC_outcome 1 (some .int) 0 0 (xw_W P) (xw_D P) (xw_ty P) [.ref (xw_a P 0)] (σ, τ) (some (.int (σ.1 9))) (σ, τ) := by
  refine xf_start (own := xnR_SC) [some (.ref (xw_a P 0))] rfl (by decide) (Nat.le_of_ble_eq_true rfl) rfl (xf_cat rfl) ?_
  intro X hX hE
  refine xf_aload_n hX 1 rfl 0 xnd_SC_outcome_0 rfl rfl ?_
  refine xg_SC_writer hX 4 rfl xk_SC_34 xnd_SC_outcome_1 ?_
  refine xg_WR_outcome hX 7 rfl xk_SC_58 xnd_SC_outcome_4 ?_
  refine xf_iret hX hE xnd_SC_outcome_7 ?_
  exact ⟨rfl, rfl⟩

set_option maxRecDepth 100000 in
set_option maxHeartbeats 4000000 in
theorem xc_get (P : xw_T) (σ τ : xf_T) (r key : Int32) : xf_F (xw_l P) xny_SC_get xnc_SC_get 3 (some .boolean) 2 42 (xw_W P) (xw_D P) (xw_ty P) [.ref (xw_a P 0), .int r, .int key] (σ, τ) (some (.int (xs_getB σ r))) (xs_get σ r key, τ) := by
  refine xf_start (own := xnR_SC) [some (.ref (xw_a P 0)), some (.int r), some (.int key)] rfl (by decide) (Nat.le_of_ble_eq_true rfl) rfl (xf_cat rfl) ?_
  intro X hX hE
  refine xf_iload_n hX 1 rfl 1 xnd_SC_get_0 rfl rfl ?_
  refine xf_S1i hX 4 rfl (xc_isRd P _ _ _) xq_SC_isReader xk_SC_62 rfl rfl xnd_SC_get_1 ?_
  refine xf_if_eq hX 7 rfl 19 xnd_SC_get_4 (by decide) (fun h4 => ?_) (fun h4 => ?_)
  · refine xf_iconst hX 20 rfl (0) xnd_SC_get_19 (by decide) ?_
    refine xf_zret hX hE xnd_SC_get_20 rfl ?_
    have e9 : xs_getB σ r = 0 := by simp only [xs_getB, eq_true h4, if_true, if_false]
    exact ⟨by rw [e9], by unfold xs_get; rw [if_pos e9]⟩
  · have hr := (xs_rd3 h4).2
    refine xf_aload_n hX 8 rfl 0 xnd_SC_get_7 rfl rfl ?_
    refine xg_SC_readers hX 11 rfl xk_SC_40 xnd_SC_get_8 ?_
    refine xf_iload_n hX 12 rfl 1 xnd_SC_get_11 rfl rfl ?_
    refine xaX_aaload hX 13 rfl rfl (xs_rd3 h4).1 xnd_SC_get_12 ?_
    refine xf_V0i hX 16 rfl (xc_ruw P _ _ _ hr) xq_RD_isUnderWay xk_SC_66 (xrX_RD hr) rfl rfl xnd_SC_get_13 ?_
    refine xf_if_eq hX 19 rfl 21 xnd_SC_get_16 (by decide) (fun h16 => ?_) (fun h16 => ?_)
    · refine xf_aload_n hX 22 rfl 0 xnd_SC_get_21 rfl rfl ?_
      refine xg_SC_readers hX 25 rfl xk_SC_40 xnd_SC_get_22 ?_
      refine xf_iload_n hX 26 rfl 1 xnd_SC_get_25 rfl rfl ?_
      refine xaX_aaload hX 27 rfl rfl (xs_rd3 h4).1 xnd_SC_get_26 ?_
      refine xf_iload_n hX 28 rfl 2 xnd_SC_get_27 rfl rfl ?_
      refine xf_V1v hX 31 rfl (xc_rbegin P _ _ _ hr _) xq_RD_begin xk_SC_67 (xrX_RD hr) rfl rfl xnd_SC_get_28 ?_
      refine xf_iconst hX 32 rfl (1) xnd_SC_get_31 (by decide) ?_
      refine xf_zret hX hE xnd_SC_get_32 rfl ?_
      have e9 : xs_getB σ r = 1 := by simp only [xs_getB, h4, eq_true h16, if_true, if_false]
      exact ⟨by rw [e9], by unfold xs_get; rw [e9, if_neg (by decide)]⟩
    · refine xf_iconst hX 20 rfl (0) xnd_SC_get_19 (by decide) ?_
      refine xf_zret hX hE xnd_SC_get_20 rfl ?_
      have e9 : xs_getB σ r = 0 := by simp only [xs_getB, h4, h16, if_true, if_false]
      exact ⟨by rw [e9], by unfold xs_get; rw [if_pos e9]⟩

set_option maxRecDepth 100000 in
set_option maxHeartbeats 4000000 in
theorem xc_step (P : xw_T) (σ τ : xf_T) (r : Int32) (hk : ∀ q, q < 3 → xs_okR (xw_n P) (xw_w P) (24 + 8 * q) σ) : xf_F (xw_l P) xny_SC_step xnc_SC_step 2 (some .int) 7 144 (xw_W P) (xw_D P) (xw_ty P) [.ref (xw_a P 0), .int r] (σ, τ) (some (.int (xs_stepV (xw_w P) σ r))) (xs_step (xw_w P) σ r, τ) := by
  refine xf_start (own := xnR_SC) [some (.ref (xw_a P 0)), some (.int r)] rfl (by decide) (Nat.le_of_ble_eq_true rfl) rfl (xf_cat rfl) ?_
  intro X hX hE
  refine xf_iload_n hX 1 rfl 1 xnd_SC_step_0 rfl rfl ?_
  refine xf_S1i hX 4 rfl (xc_isRd P _ _ _) xq_SC_isReader xk_SC_62 rfl rfl xnd_SC_step_1 ?_
  refine xf_if_eq hX 7 rfl 19 xnd_SC_step_4 (by decide) (fun h4 => ?_) (fun h4 => ?_)
  · refine xf_iconst hX 20 rfl (-1) xnd_SC_step_19 (by decide) ?_
    refine xf_iret hX hE xnd_SC_step_20 ?_
    refine ⟨?_, ?_⟩ <;> simp only [xs_stepV, xs_step, xs_stB, eq_true h4, if_true, if_false]
  · have hr := (xs_rd3 h4).2
    refine xf_aload_n hX 8 rfl 0 xnd_SC_step_7 rfl rfl ?_
    refine xg_SC_readers hX 11 rfl xk_SC_40 xnd_SC_step_8 ?_
    refine xf_iload_n hX 12 rfl 1 xnd_SC_step_11 rfl rfl ?_
    refine xaX_aaload hX 13 rfl rfl (xs_rd3 h4).1 xnd_SC_step_12 ?_
    refine xf_V0i hX 16 rfl (xc_ruw P _ _ _ hr) xq_RD_isUnderWay xk_SC_66 (xrX_RD hr) rfl rfl xnd_SC_step_13 ?_
    refine xf_if_ne hX 19 rfl 21 xnd_SC_step_16 (by decide) (fun h16 => ?_) (fun h16 => ?_)
    · refine xf_aload_n hX 22 rfl 0 xnd_SC_step_21 rfl rfl ?_
      refine xg_SC_readers hX 25 rfl xk_SC_40 xnd_SC_step_22 ?_
      refine xf_iload_n hX 26 rfl 1 xnd_SC_step_25 rfl rfl ?_
      refine xaX_aaload hX 27 rfl rfl (xs_rd3 h4).1 xnd_SC_step_26 ?_
      refine xf_V0v hX 30 rfl (xc_goR P _ _ _ hr (hk _ hr)) xq_RD_goOn xk_SC_70 (xrX_RD hr) rfl rfl xnd_SC_step_27 ?_
      refine xf_aload_n hX 31 rfl 0 xnd_SC_step_30 rfl rfl ?_
      refine xg_SC_readers hX 34 rfl xk_SC_40 xnd_SC_step_31 ?_
      refine xf_iload_n hX 35 rfl 1 xnd_SC_step_34 rfl rfl ?_
      refine xaX_aaload hX 36 rfl rfl (xs_rd3 h4).1 xnd_SC_step_35 ?_
      refine xg_RD_state hX 39 rfl hr xk_SC_71 xnd_SC_step_36 ?_
      refine xf_iret hX hE xnd_SC_step_39 ?_
      refine ⟨?_, ?_⟩ <;> simp only [xs_stepV, xs_step, xs_stB, h4, h16, if_true, if_false]
    · refine xf_iconst hX 20 rfl (-1) xnd_SC_step_19 (by decide) ?_
      refine xf_iret hX hE xnd_SC_step_20 ?_
      refine ⟨?_, ?_⟩ <;> simp only [xs_stepV, xs_step, xs_stB, h4, eq_true h16, if_true, if_false]

set_option maxRecDepth 100000 in
set_option maxHeartbeats 4000000 in
theorem xc_state (P : xw_T) (σ τ : xf_T) (r : Int32) : xf_F (xw_l P) xny_SC_state xnc_SC_state 2 (some .int) 2 42 (xw_W P) (xw_D P) (xw_ty P) [.ref (xw_a P 0), .int r] (σ, τ) (some (.int (xs_state σ r))) (σ, τ) := by
  refine xf_start (own := xnR_SC) [some (.ref (xw_a P 0)), some (.int r)] rfl (by decide) (Nat.le_of_ble_eq_true rfl) rfl (xf_cat rfl) ?_
  intro X hX hE
  refine xf_iload_n hX 1 rfl 1 xnd_SC_state_0 rfl rfl ?_
  refine xf_S1i hX 4 rfl (xc_isRd P _ _ _) xq_SC_isReader xk_SC_62 rfl rfl xnd_SC_state_1 ?_
  refine xf_if_eq hX 7 rfl 19 xnd_SC_state_4 (by decide) (fun h4 => ?_) (fun h4 => ?_)
  · refine xf_iconst hX 20 rfl (-1) xnd_SC_state_19 (by decide) ?_
    refine xf_iret hX hE xnd_SC_state_20 ?_
    refine ⟨?_, rfl⟩
    simp only [xs_state, eq_true h4, if_true, if_false]
  · have hr := (xs_rd3 h4).2
    refine xf_aload_n hX 8 rfl 0 xnd_SC_state_7 rfl rfl ?_
    refine xg_SC_readers hX 11 rfl xk_SC_40 xnd_SC_state_8 ?_
    refine xf_iload_n hX 12 rfl 1 xnd_SC_state_11 rfl rfl ?_
    refine xaX_aaload hX 13 rfl rfl (xs_rd3 h4).1 xnd_SC_state_12 ?_
    refine xg_RD_state hX 16 rfl hr xk_SC_71 xnd_SC_state_13 ?_
    refine xf_goto hX 20 xnd_SC_state_16 (by decide) ?_
    refine xf_iret hX hE xnd_SC_state_20 ?_
    refine ⟨?_, rfl⟩
    simp only [xs_state, h4, if_true, if_false]

set_option maxRecDepth 100000 in
set_option maxHeartbeats 4000000 in
theorem xc_isHit (P : xw_T) (σ τ : xf_T) (r : Int32) : xf_F (xw_l P) xny_SC_isHit xnc_SC_isHit 2 (some .boolean) 2 42 (xw_W P) (xw_D P) (xw_ty P) [.ref (xw_a P 0), .int r] (σ, τ) (some (.int (xs_hitB σ r))) (σ, τ) := by
  refine xf_start (own := xnR_SC) [some (.ref (xw_a P 0)), some (.int r)] rfl (by decide) (Nat.le_of_ble_eq_true rfl) rfl (xf_cat rfl) ?_
  intro X hX hE
  refine xf_iload_n hX 1 rfl 1 xnd_SC_isHit_0 rfl rfl ?_
  refine xf_S1i hX 4 rfl (xc_isRd P _ _ _) xq_SC_isReader xk_SC_62 rfl rfl xnd_SC_isHit_1 ?_
  refine xf_if_eq hX 7 rfl 25 xnd_SC_isHit_4 (by decide) (fun h4 => ?_) (fun h4 => ?_)
  · refine xf_iconst hX 26 rfl (0) xnd_SC_isHit_25 (by decide) ?_
    refine xf_zret hX hE xnd_SC_isHit_26 rfl ?_
    refine ⟨?_, rfl⟩
    simp only [xs_hitB, eq_true h4, if_true, if_false]
  · have hr := (xs_rd3 h4).2
    refine xf_aload_n hX 8 rfl 0 xnd_SC_isHit_7 rfl rfl ?_
    refine xg_SC_readers hX 11 rfl xk_SC_40 xnd_SC_isHit_8 ?_
    refine xf_iload_n hX 12 rfl 1 xnd_SC_isHit_11 rfl rfl ?_
    refine xaX_aaload hX 13 rfl rfl (xs_rd3 h4).1 xnd_SC_isHit_12 ?_
    refine xg_RD_state hX 16 rfl hr xk_SC_71 xnd_SC_isHit_13 ?_
    refine xf_bipush hX 18 rfl (7) xnd_SC_isHit_16 (by decide) ?_
    refine xf_icmp_ne hX 21 rfl 25 xnd_SC_isHit_18 (by decide) (fun h18 => ?_) (fun h18 => ?_)
    · refine xf_iconst hX 26 rfl (0) xnd_SC_isHit_25 (by decide) ?_
      refine xf_zret hX hE xnd_SC_isHit_26 rfl ?_
      refine ⟨?_, rfl⟩
      simp only [xs_hitB, h4, h18, if_true, if_false]
    · refine xf_iconst hX 22 rfl (1) xnd_SC_isHit_21 (by decide) ?_
      refine xf_goto hX 26 xnd_SC_isHit_22 (by decide) ?_
      refine xf_zret hX hE xnd_SC_isHit_26 rfl ?_
      refine ⟨?_, rfl⟩
      simp only [xs_hitB, h4, eq_true h18, if_true, if_false]

theorem xs_hitB_rd {σ : xf_T} {r : Int32} (h : ¬ xs_hitB σ r = 0) : vp_in r 3 ∧ r.toNatClampNeg < 3 := by
  unfold xs_hitB at h
  by_cases h1 : xs_isW r 0 2 = 0
  · rw [if_pos h1] at h; exact absurd rfl h
  · exact xs_rd3 h1
set_option maxRecDepth 100000 in
set_option maxHeartbeats 4000000 in
theorem xc_value (P : xw_T) (σ τ : xf_T) (r : Int32) : xf_F (xw_l P) xny_SC_value xnc_SC_value 2 (some .int) 3 63 (xw_W P) (xw_D P) (xw_ty P) [.ref (xw_a P 0), .int r] (σ, τ) (some (.int (xs_value σ r 1))) (σ, τ) := by
  refine xf_start (own := xnR_SC) [some (.ref (xw_a P 0)), some (.int r)] rfl (by decide) (Nat.le_of_ble_eq_true rfl) rfl (xf_cat rfl) ?_
  intro X hX hE
  refine xf_aload_n hX 1 rfl 0 xnd_SC_value_0 rfl rfl ?_
  refine xf_iload_n hX 2 rfl 1 xnd_SC_value_1 rfl rfl ?_
  refine xf_V1i hX 5 rfl (xc_isHit P _ _ _) xq_SC_isHit xk_SC_74 xrX_SC rfl rfl xnd_SC_value_2 ?_
  refine xf_if_eq hX 8 rfl 20 xnd_SC_value_5 (by decide) (fun h5 => ?_) (fun h5 => ?_)
  · refine xf_iconst hX 21 rfl (0) xnd_SC_value_20 (by decide) ?_
    refine xf_iret hX hE xnd_SC_value_21 ?_
    refine ⟨?_, rfl⟩
    simp only [xs_value, eq_true h5, if_true, if_false]
  · have hr := (xs_hitB_rd h5).2
    refine xf_aload_n hX 9 rfl 0 xnd_SC_value_8 rfl rfl ?_
    refine xg_SC_readers hX 12 rfl xk_SC_40 xnd_SC_value_9 ?_
    refine xf_iload_n hX 13 rfl 1 xnd_SC_value_12 rfl rfl ?_
    refine xaX_aaload hX 14 rfl rfl (xs_hitB_rd h5).1 xnd_SC_value_13 ?_
    refine xg_RD_copiedValue hX 17 rfl hr xk_SC_77 xnd_SC_value_14 ?_
    refine xf_goto hX 21 xnd_SC_value_17 (by decide) ?_
    refine xf_iret hX hE xnd_SC_value_21 ?_
    refine ⟨?_, rfl⟩
    simp only [xs_value, h5, if_true, if_false]

set_option maxRecDepth 100000 in
set_option maxHeartbeats 4000000 in
theorem xc_token (P : xw_T) (σ τ : xf_T) (r : Int32) : xf_F (xw_l P) xny_SC_token xnc_SC_token 2 (some .int) 3 63 (xw_W P) (xw_D P) (xw_ty P) [.ref (xw_a P 0), .int r] (σ, τ) (some (.int (xs_value σ r 2))) (σ, τ) := by
  refine xf_start (own := xnR_SC) [some (.ref (xw_a P 0)), some (.int r)] rfl (by decide) (Nat.le_of_ble_eq_true rfl) rfl (xf_cat rfl) ?_
  intro X hX hE
  refine xf_aload_n hX 1 rfl 0 xnd_SC_token_0 rfl rfl ?_
  refine xf_iload_n hX 2 rfl 1 xnd_SC_token_1 rfl rfl ?_
  refine xf_V1i hX 5 rfl (xc_isHit P _ _ _) xq_SC_isHit xk_SC_74 xrX_SC rfl rfl xnd_SC_token_2 ?_
  refine xf_if_eq hX 8 rfl 20 xnd_SC_token_5 (by decide) (fun h5 => ?_) (fun h5 => ?_)
  · refine xf_iconst hX 21 rfl (0) xnd_SC_token_20 (by decide) ?_
    refine xf_iret hX hE xnd_SC_token_21 ?_
    refine ⟨?_, rfl⟩
    simp only [xs_value, eq_true h5, if_true, if_false]
  · have hr := (xs_hitB_rd h5).2
    refine xf_aload_n hX 9 rfl 0 xnd_SC_token_8 rfl rfl ?_
    refine xg_SC_readers hX 12 rfl xk_SC_40 xnd_SC_token_9 ?_
    refine xf_iload_n hX 13 rfl 1 xnd_SC_token_12 rfl rfl ?_
    refine xaX_aaload hX 14 rfl rfl (xs_hitB_rd h5).1 xnd_SC_token_13 ?_
    refine xg_RD_copiedToken hX 17 rfl hr xk_SC_80 xnd_SC_token_14 ?_
    refine xf_goto hX 21 xnd_SC_token_17 (by decide) ?_
    refine xf_iret hX hE xnd_SC_token_21 ?_
    refine ⟨?_, rfl⟩
    simp only [xs_value, h5, if_true, if_false]

set_option maxRecDepth 100000 in
set_option maxHeartbeats 4000000 in
theorem xc_pass (P : xw_T) (σ τ : xf_T) (k : Int32) : xf_F (xw_l P) xny_SC_pass xnc_SC_pass 2 (some .boolean) 1 22 (xw_W P) (xw_D P) (xw_ty P) [.ref (xw_a P 0), .int k] (σ, τ) (some (.int (xs_passB k))) (xs_pass σ k, τ) := by
  refine xf_start (own := xnR_SC) [some (.ref (xw_a P 0)), some (.int k)] rfl (by decide) (Nat.le_of_ble_eq_true rfl) rfl (xf_cat rfl) ?_
  intro X hX hE
  refine xf_iload_n hX 1 rfl 1 xnd_SC_pass_0 rfl rfl ?_
  refine xf_iconst hX 2 rfl (1) xnd_SC_pass_1 (by decide) ?_
  refine xf_sipush hX 5 rfl (1000) xnd_SC_pass_2 (by decide) ?_
  refine xf_S3i hX 8 rfl (xc_isW P _ _ _ _ _) xq_SC_isWithin xk_SC_18 rfl rfl xnd_SC_pass_5 ?_
  refine xf_if_ne hX 11 rfl 13 xnd_SC_pass_8 (by decide) (fun h8 => ?_) (fun h8 => ?_)
  · refine xf_aload_n hX 14 rfl 0 xnd_SC_pass_13 rfl rfl ?_
    refine xg_SC_store hX 17 rfl xk_SC_25 xnd_SC_pass_14 ?_
    refine xf_dup hX 18 rfl xnd_SC_pass_17 rfl ?_
    refine xg_ST_time hX 21 rfl xk_SC_83 xnd_SC_pass_18 ?_
    refine xf_iload_n hX 22 rfl 1 xnd_SC_pass_21 rfl rfl ?_
    refine xf_iadd hX 23 rfl xnd_SC_pass_22 ?_
    refine xp_ST_time hX 26 rfl xk_SC_83 xnd_SC_pass_23 ?_
    refine xf_iconst hX 27 rfl (1) xnd_SC_pass_26 (by decide) ?_
    refine xf_zret hX hE xnd_SC_pass_27 rfl ?_
    refine ⟨?_, ?_⟩ <;> simp only [xs_passB, xs_pass, h8, if_true, if_false]
  · refine xf_iconst hX 12 rfl (0) xnd_SC_pass_11 (by decide) ?_
    refine xf_zret hX hE xnd_SC_pass_12 rfl ?_
    refine ⟨?_, ?_⟩ <;> simp only [xs_passB, xs_pass, eq_true h8, if_true, if_false]

set_option maxRecDepth 100000 in
set_option maxHeartbeats 4000000 in
theorem xc_where (P : xw_T) (σ τ : xf_T) (key : Int32) (ho : xs_okP (xw_n P) (xw_w P) σ) : xf_F (xw_l P) xny_SC_where xnc_SC_where 2 (some .int) 5 103 (xw_W P) (xw_D P) (xw_ty P) [.ref (xw_a P 0), .int key] (σ, τ) (some (.int (xs_find (xw_w P) σ key))) (σ, τ) := by
  refine xf_start (own := xnR_SC) [some (.ref (xw_a P 0)), some (.int key)] rfl (by decide) (Nat.le_of_ble_eq_true rfl) rfl (xf_cat rfl) ?_
  intro X hX hE
  refine xf_aload_n hX 1 rfl 0 xnd_SC_where_0 rfl rfl ?_
  refine xg_SC_store hX 4 rfl xk_SC_25 xnd_SC_where_1 ?_
  refine xf_iload_n hX 5 rfl 1 xnd_SC_where_4 rfl rfl ?_
  refine xf_V1i hX 8 rfl (xc_find P _ _ _ ho) xq_ST_find xk_SC_86 xrX_ST rfl rfl xnd_SC_where_5 ?_
  refine xf_iret hX hE xnd_SC_where_8 ?_
  exact ⟨rfl, rfl⟩

set_option maxRecDepth 100000 in
set_option maxHeartbeats 4000000 in
theorem xc_at (P : xw_T) (σ τ : xf_T) (p : Int32) (hw : 1 ≤ (xw_w P) ∧ (xw_w P) ≤ 4) : xf_F (xw_l P) xny_SC_at xnc_SC_at 2 (some .int) 1 22 (xw_W P) (xw_D P) (xw_ty P) [.ref (xw_a P 0), .int p] (σ, τ) (some (.int (xs_atp (xw_w P) σ p))) (σ, τ) := by
  refine xf_start (own := xnR_SC) [some (.ref (xw_a P 0)), some (.int p)] rfl (by decide) (Nat.le_of_ble_eq_true rfl) rfl (xf_cat rfl) ?_
  intro X hX hE
  refine xf_iload_n hX 1 rfl 1 xnd_SC_at_0 rfl rfl ?_
  refine xf_iconst hX 2 rfl (0) xnd_SC_at_1 (by decide) ?_
  refine xf_aload_n hX 3 rfl 0 xnd_SC_at_2 rfl rfl ?_
  refine xg_SC_store hX 6 rfl xk_SC_25 xnd_SC_at_3 ?_
  refine xg_ST_places hX 9 rfl xk_SC_90 xnd_SC_at_6 ?_
  refine xaX_alen hX 10 rfl rfl xnd_SC_at_9 ?_
  change xf_V X 10 _ (.int (nI (8 * xw_w P)) :: _) _
  refine xf_iconst hX 11 rfl (1) xnd_SC_at_10 (by decide) ?_
  refine xf_isub hX 12 rfl xnd_SC_at_11 ?_
  refine xf_S3i hX 15 rfl (xc_isW P _ _ _ _ _) xq_SC_isWithin xk_SC_18 rfl rfl xnd_SC_at_12 ?_
  refine xf_if_eq hX 18 rfl 30 xnd_SC_at_15 (by decide) (fun h15 => ?_) (fun h15 => ?_)
  · refine xf_iconst hX 31 rfl (-1) xnd_SC_at_30 (by decide) ?_
    refine xf_iret hX hE xnd_SC_at_31 ?_
    refine ⟨?_, rfl⟩
    simp only [xs_atp, eq_true h15, if_true, if_false]
  · refine xf_aload_n hX 19 rfl 0 xnd_SC_at_18 rfl rfl ?_
    refine xg_SC_store hX 22 rfl xk_SC_25 xnd_SC_at_19 ?_
    refine xg_ST_places hX 25 rfl xk_SC_90 xnd_SC_at_22 ?_
    refine xf_iload_n hX 26 rfl 1 xnd_SC_at_25 rfl rfl ?_
    refine xaX_iaload hX 27 rfl rfl (show vp_in _ (8 * xw_w P) from xs_isW_in (by omega) (by omega) h15) xnd_SC_at_26 ?_
    refine xf_goto hX 31 xnd_SC_at_27 (by decide) ?_
    refine xf_iret hX hE xnd_SC_at_31 ?_
    refine ⟨?_, rfl⟩
    simp only [xs_atp, h15, if_true, if_false]

set_option maxRecDepth 100000 in
set_option maxHeartbeats 4000000 in
theorem xc_isUsed (P : xw_T) (σ τ : xf_T) (i : Int32) (hn : 1 ≤ (xw_n P) ∧ (xw_n P) ≤ 32) : xf_F (xw_l P) xny_SC_isUsedItem xnc_SC_isUsedItem 2 (some .boolean) 1 22 (xw_W P) (xw_D P) (xw_ty P) [.ref (xw_a P 0), .int i] (σ, τ) (some (.int (xs_used (xw_n P) σ i))) (σ, τ) := by
  refine xf_start (own := xnR_SC) [some (.ref (xw_a P 0)), some (.int i)] rfl (by decide) (Nat.le_of_ble_eq_true rfl) rfl (xf_cat rfl) ?_
  intro X hX hE
  refine xf_iload_n hX 1 rfl 1 xnd_SC_isUsedItem_0 rfl rfl ?_
  refine xf_iconst hX 2 rfl (0) xnd_SC_isUsedItem_1 (by decide) ?_
  refine xf_aload_n hX 3 rfl 0 xnd_SC_isUsedItem_2 rfl rfl ?_
  refine xg_SC_store hX 6 rfl xk_SC_25 xnd_SC_isUsedItem_3 ?_
  refine xg_ST_capacity hX 9 rfl xk_SC_155 xnd_SC_isUsedItem_6 ?_
  refine xf_iconst hX 10 rfl (1) xnd_SC_isUsedItem_9 (by decide) ?_
  refine xf_isub hX 11 rfl xnd_SC_isUsedItem_10 ?_
  refine xf_S3i hX 14 rfl (xc_isW P _ _ _ _ _) xq_SC_isWithin xk_SC_18 rfl rfl xnd_SC_isUsedItem_11 ?_
  refine xf_if_eq hX 17 rfl 33 xnd_SC_isUsedItem_14 (by decide) (fun h14 => ?_) (fun h14 => ?_)
  · refine xf_iconst hX 34 rfl (0) xnd_SC_isUsedItem_33 (by decide) ?_
    refine xf_zret hX hE xnd_SC_isUsedItem_34 rfl ?_
    refine ⟨?_, rfl⟩
    simp only [xs_used, eq_true h14, if_true, if_false]
  · refine xf_aload_n hX 18 rfl 0 xnd_SC_isUsedItem_17 rfl rfl ?_
    refine xg_SC_store hX 21 rfl xk_SC_25 xnd_SC_isUsedItem_18 ?_
    refine xg_ST_usedFlags hX 24 rfl xk_SC_158 xnd_SC_isUsedItem_21 ?_
    refine xf_iload_n hX 25 rfl 1 xnd_SC_isUsedItem_24 rfl rfl ?_
    refine xaX_baload hX 26 rfl rfl (show vp_in _ (xw_n P) from xs_isW_in (by omega) (by omega) h14) xnd_SC_isUsedItem_25 ?_
    refine xf_if_eq hX 29 rfl 33 xnd_SC_isUsedItem_26 (by decide) (fun h26 => ?_) (fun h26 => ?_)
    · refine xf_iconst hX 34 rfl (0) xnd_SC_isUsedItem_33 (by decide) ?_
      refine xf_zret hX hE xnd_SC_isUsedItem_34 rfl ?_
      refine ⟨?_, rfl⟩
      simp only [xs_used, h14, eq_true h26, if_true, if_false]
    · refine xf_iconst hX 30 rfl (1) xnd_SC_isUsedItem_29 (by decide) ?_
      refine xf_goto hX 34 xnd_SC_isUsedItem_30 (by decide) ?_
      refine xf_zret hX hE xnd_SC_isUsedItem_34 rfl ?_
      refine ⟨?_, rfl⟩
      simp only [xs_used, h14, h26, if_true, if_false]

set_option maxRecDepth 100000 in
set_option maxHeartbeats 4000000 in
theorem xc_used (P : xw_T) (σ τ : xf_T) (i : Int32) (hn : 1 ≤ (xw_n P) ∧ (xw_n P) ≤ 32) : xf_F (xw_l P) xny_SC_used xnc_SC_used 2 (some .boolean) 2 43 (xw_W P) (xw_D P) (xw_ty P) [.ref (xw_a P 0), .int i] (σ, τ) (some (.int (xs_used (xw_n P) σ i))) (σ, τ) := by
  refine xf_start (own := xnR_SC) [some (.ref (xw_a P 0)), some (.int i)] rfl (by decide) (Nat.le_of_ble_eq_true rfl) rfl (xf_cat rfl) ?_
  intro X hX hE
  refine xf_aload_n hX 1 rfl 0 xnd_SC_used_0 rfl rfl ?_
  refine xf_iload_n hX 2 rfl 1 xnd_SC_used_1 rfl rfl ?_
  refine xf_V1i hX 5 rfl (xc_isUsed P _ _ _ hn) xq_SC_isUsedItem xk_SC_94 xrX_SC rfl rfl xnd_SC_used_2 ?_
  refine xf_zret hX hE xnd_SC_used_5 (xs_used_z _ _ _) ?_
  exact ⟨rfl, rfl⟩

set_option maxRecDepth 100000 in
set_option maxHeartbeats 4000000 in
theorem xc_item (P : xw_T) (σ τ : xf_T) (i k : Int32) (hn : 1 ≤ (xw_n P) ∧ (xw_n P) ≤ 32) : xf_F (xw_l P) xny_SC_item xnc_SC_item 3 (some .int) 2 43 (xw_W P) (xw_D P) (xw_ty P) [.ref (xw_a P 0), .int i, .int k] (σ, τ) (some (.int (xs_item (xw_n P) σ i k))) (σ, τ) := by
  refine xf_start (own := xnR_SC) [some (.ref (xw_a P 0)), some (.int i), some (.int k)] rfl (by decide) (Nat.le_of_ble_eq_true rfl) rfl (xf_cat rfl) ?_
  intro X hX hE
  refine xf_aload_n hX 1 rfl 0 xnd_SC_item_0 rfl rfl ?_
  refine xf_iload_n hX 2 rfl 1 xnd_SC_item_1 rfl rfl ?_
  refine xf_V1i hX 5 rfl (xc_isUsed P _ _ _ hn) xq_SC_isUsedItem xk_SC_94 xrX_SC rfl rfl xnd_SC_item_2 ?_
  refine xf_if_ne hX 8 rfl 10 xnd_SC_item_5 (by decide) (fun h5 => ?_) (fun h5 => ?_)
  · have hi := xs_used_in (by omega) (by omega) h5
    refine xf_iload_n hX 11 rfl 2 xnd_SC_item_10 rfl rfl ?_
    by_cases c11_0 : k = 0
    · rw [c11_0]
      refine xf_tabIn hX 44 xnd_SC_item_11 (by decide) (by decide) rfl (by decide) ?_
      refine xf_aload_n hX 45 rfl 0 xnd_SC_item_44 rfl rfl ?_
      refine xg_SC_store hX 48 rfl xk_SC_25 xnd_SC_item_45 ?_
      refine xg_ST_keys hX 51 rfl xk_SC_97 xnd_SC_item_48 ?_
      refine xf_iload_n hX 52 rfl 1 xnd_SC_item_51 rfl rfl ?_
      refine xaX_iaload hX 53 rfl rfl (show vp_in _ (xw_n P) from hi) xnd_SC_item_52 ?_
      refine xf_iret hX hE xnd_SC_item_53 ?_
      refine ⟨?_, rfl⟩
      simp only [xs_item, h5, eq_true c11_0, if_true, if_false]
    by_cases c11_1 : k = 1
    · rw [c11_1]
      refine xf_tabIn hX 54 xnd_SC_item_11 (by decide) (by decide) rfl (by decide) ?_
      refine xf_aload_n hX 55 rfl 0 xnd_SC_item_54 rfl rfl ?_
      refine xg_SC_store hX 58 rfl xk_SC_25 xnd_SC_item_55 ?_
      refine xg_ST_values hX 61 rfl xk_SC_100 xnd_SC_item_58 ?_
      refine xf_iload_n hX 62 rfl 1 xnd_SC_item_61 rfl rfl ?_
      refine xaX_iaload hX 63 rfl rfl (show vp_in _ (xw_n P) from hi) xnd_SC_item_62 ?_
      refine xf_iret hX hE xnd_SC_item_63 ?_
      refine ⟨?_, rfl⟩
      simp only [xs_item, h5, c11_0, eq_true c11_1, if_true, if_false]
    by_cases c11_2 : k = 2
    · rw [c11_2]
      refine xf_tabIn hX 64 xnd_SC_item_11 (by decide) (by decide) rfl (by decide) ?_
      refine xf_aload_n hX 65 rfl 0 xnd_SC_item_64 rfl rfl ?_
      refine xg_SC_store hX 68 rfl xk_SC_25 xnd_SC_item_65 ?_
      refine xg_ST_tokens hX 71 rfl xk_SC_103 xnd_SC_item_68 ?_
      refine xf_iload_n hX 72 rfl 1 xnd_SC_item_71 rfl rfl ?_
      refine xaX_iaload hX 73 rfl rfl (show vp_in _ (xw_n P) from hi) xnd_SC_item_72 ?_
      refine xf_iret hX hE xnd_SC_item_73 ?_
      refine ⟨?_, rfl⟩
      simp only [xs_item, h5, c11_0, c11_1, eq_true c11_2, if_true, if_false]
    by_cases c11_3 : k = 3
    · rw [c11_3]
      refine xf_tabIn hX 74 xnd_SC_item_11 (by decide) (by decide) rfl (by decide) ?_
      refine xf_aload_n hX 75 rfl 0 xnd_SC_item_74 rfl rfl ?_
      refine xg_SC_store hX 78 rfl xk_SC_25 xnd_SC_item_75 ?_
      refine xg_ST_expiries hX 81 rfl xk_SC_106 xnd_SC_item_78 ?_
      refine xf_iload_n hX 82 rfl 1 xnd_SC_item_81 rfl rfl ?_
      refine xaX_iaload hX 83 rfl rfl (show vp_in _ (xw_n P) from hi) xnd_SC_item_82 ?_
      refine xf_iret hX hE xnd_SC_item_83 ?_
      refine ⟨?_, rfl⟩
      simp only [xs_item, h5, c11_0, c11_1, c11_2, eq_true c11_3, if_true, if_false]
    by_cases c11_4 : k = 4
    · rw [c11_4]
      refine xf_tabIn hX 84 xnd_SC_item_11 (by decide) (by decide) rfl (by decide) ?_
      refine xf_aload_n hX 85 rfl 0 xnd_SC_item_84 rfl rfl ?_
      refine xg_SC_store hX 88 rfl xk_SC_25 xnd_SC_item_85 ?_
      refine xg_ST_bits hX 91 rfl xk_SC_109 xnd_SC_item_88 ?_
      refine xf_iload_n hX 92 rfl 1 xnd_SC_item_91 rfl rfl ?_
      refine xaX_baload hX 93 rfl rfl (show vp_in _ (xw_n P) from hi) xnd_SC_item_92 ?_
      refine xf_if_eq hX 96 rfl 100 xnd_SC_item_93 (by decide) (fun h93 => ?_) (fun h93 => ?_)
      · refine xf_iconst hX 101 rfl (0) xnd_SC_item_100 (by decide) ?_
        refine xf_iret hX hE xnd_SC_item_101 ?_
        refine ⟨?_, rfl⟩
        simp only [xs_item, h5, c11_0, c11_1, c11_2, c11_3, eq_true c11_4, eq_true h93, if_true, if_false]
      · refine xf_iconst hX 97 rfl (1) xnd_SC_item_96 (by decide) ?_
        refine xf_goto hX 101 xnd_SC_item_97 (by decide) ?_
        refine xf_iret hX hE xnd_SC_item_101 ?_
        refine ⟨?_, rfl⟩
        simp only [xs_item, h5, c11_0, c11_1, c11_2, c11_3, eq_true c11_4, h93, if_true, if_false]
    have n0 := lv_neT c11_0 (by decide : ((0 : Int32)).toInt = 0)
    have n1 := lv_neT c11_1 (by decide : ((1 : Int32)).toInt = 1)
    have n2 := lv_neT c11_2 (by decide : ((2 : Int32)).toInt = 2)
    have n3 := lv_neT c11_3 (by decide : ((3 : Int32)).toInt = 3)
    have n4 := lv_neT c11_4 (by decide : ((4 : Int32)).toInt = 4)
    refine xf_tabOut hX 102 xnd_SC_item_11 (by omega) (by decide) ?_
    refine xf_iconst hX 103 rfl (0) xnd_SC_item_102 (by decide) ?_
    refine xf_iret hX hE xnd_SC_item_103 ?_
    refine ⟨?_, rfl⟩
    simp only [xs_item, h5, c11_0, c11_1, c11_2, c11_3, c11_4, if_true, if_false]
  · refine xf_iconst hX 9 rfl (0) xnd_SC_item_8 (by decide) ?_
    refine xf_iret hX hE xnd_SC_item_9 ?_
    refine ⟨?_, rfl⟩
    simp only [xs_item, eq_true h5, if_true, if_false]

set_option maxRecDepth 100000 in
set_option maxHeartbeats 4000000 in
theorem xc_version (P : xw_T) (σ τ : xf_T) (k : Int32) : xf_F (xw_l P) xny_SC_version xnc_SC_version 2 (some .int) 1 22 (xw_W P) (xw_D P) (xw_ty P) [.ref (xw_a P 0), .int k] (σ, τ) (some (.int (xs_version σ k))) (σ, τ) := by
  refine xf_start (own := xnR_SC) [some (.ref (xw_a P 0)), some (.int k)] rfl (by decide) (Nat.le_of_ble_eq_true rfl) rfl (xf_cat rfl) ?_
  intro X hX hE
  refine xf_iload_n hX 1 rfl 1 xnd_SC_version_0 rfl rfl ?_
  refine xf_iconst hX 2 rfl (0) xnd_SC_version_1 (by decide) ?_
  refine xf_iconst hX 3 rfl (3) xnd_SC_version_2 (by decide) ?_
  refine xf_S3i hX 6 rfl (xc_isW P _ _ _ _ _) xq_SC_isWithin xk_SC_18 rfl rfl xnd_SC_version_3 ?_
  refine xf_if_eq hX 9 rfl 21 xnd_SC_version_6 (by decide) (fun h6 => ?_) (fun h6 => ?_)
  · refine xf_iconst hX 22 rfl (-1) xnd_SC_version_21 (by decide) ?_
    refine xf_iret hX hE xnd_SC_version_22 ?_
    refine ⟨?_, rfl⟩
    simp only [xs_version, eq_true h6, if_true, if_false]
  · refine xf_aload_n hX 10 rfl 0 xnd_SC_version_9 rfl rfl ?_
    refine xg_SC_store hX 13 rfl xk_SC_25 xnd_SC_version_10 ?_
    refine xg_ST_versions hX 16 rfl xk_SC_113 xnd_SC_version_13 ?_
    refine xf_iload_n hX 17 rfl 1 xnd_SC_version_16 rfl rfl ?_
    refine xaX_iaload hX 18 rfl rfl (show vp_in _ 4 from xs_isW_in (N := 4) (by omega) (by omega) h6) xnd_SC_version_17 ?_
    refine xf_goto hX 22 xnd_SC_version_18 (by decide) ?_
    refine xf_iret hX hE xnd_SC_version_22 ?_
    refine ⟨?_, rfl⟩
    simp only [xs_version, h6, if_true, if_false]

set_option maxRecDepth 100000 in
set_option maxHeartbeats 4000000 in
theorem xc_count (P : xw_T) (σ τ : xf_T) (k : Int32) : xf_F (xw_l P) xny_SC_count xnc_SC_count 2 (some .int) 0 0 (xw_W P) (xw_D P) (xw_ty P) [.ref (xw_a P 0), .int k] (σ, τ) (some (.int (xs_count σ k))) (σ, τ) := by
  refine xf_start (own := xnR_SC) [some (.ref (xw_a P 0)), some (.int k)] rfl (by decide) (Nat.le_of_ble_eq_true rfl) rfl (xf_cat rfl) ?_
  intro X hX hE
  refine xf_iload_n hX 1 rfl 1 xnd_SC_count_0 rfl rfl ?_
  by_cases c1_0 : k = 0
  · rw [c1_0]
    refine xf_tabIn hX 56 xnd_SC_count_1 (by decide) (by decide) rfl (by decide) ?_
    refine xf_aload_n hX 57 rfl 0 xnd_SC_count_56 rfl rfl ?_
    refine xg_SC_store hX 60 rfl xk_SC_25 xnd_SC_count_57 ?_
    refine xg_ST_usedCount hX 63 rfl xk_SC_128 xnd_SC_count_60 ?_
    refine xf_iret hX hE xnd_SC_count_63 ?_
    refine ⟨?_, rfl⟩
    simp only [xs_count, eq_true c1_0, if_true, if_false]
  by_cases c1_1 : k = 1
  · rw [c1_1]
    refine xf_tabIn hX 64 xnd_SC_count_1 (by decide) (by decide) rfl (by decide) ?_
    refine xf_aload_n hX 65 rfl 0 xnd_SC_count_64 rfl rfl ?_
    refine xg_SC_tally hX 68 rfl xk_SC_10 xnd_SC_count_65 ?_
    refine xg_TA_evictions hX 71 rfl xk_SC_131 xnd_SC_count_68 ?_
    refine xf_iret hX hE xnd_SC_count_71 ?_
    refine ⟨?_, rfl⟩
    simp only [xs_count, c1_0, eq_true c1_1, if_true, if_false]
  by_cases c1_2 : k = 2
  · rw [c1_2]
    refine xf_tabIn hX 72 xnd_SC_count_1 (by decide) (by decide) rfl (by decide) ?_
    refine xf_aload_n hX 73 rfl 0 xnd_SC_count_72 rfl rfl ?_
    refine xg_SC_tally hX 76 rfl xk_SC_10 xnd_SC_count_73 ?_
    refine xg_TA_moves hX 79 rfl xk_SC_134 xnd_SC_count_76 ?_
    refine xf_iret hX hE xnd_SC_count_79 ?_
    refine ⟨?_, rfl⟩
    simp only [xs_count, c1_0, c1_1, eq_true c1_2, if_true, if_false]
  by_cases c1_3 : k = 3
  · rw [c1_3]
    refine xf_tabIn hX 80 xnd_SC_count_1 (by decide) (by decide) rfl (by decide) ?_
    refine xf_aload_n hX 81 rfl 0 xnd_SC_count_80 rfl rfl ?_
    refine xg_SC_tally hX 84 rfl xk_SC_10 xnd_SC_count_81 ?_
    refine xg_TA_retries hX 87 rfl xk_SC_137 xnd_SC_count_84 ?_
    refine xf_iret hX hE xnd_SC_count_87 ?_
    refine ⟨?_, rfl⟩
    simp only [xs_count, c1_0, c1_1, c1_2, eq_true c1_3, if_true, if_false]
  by_cases c1_4 : k = 4
  · rw [c1_4]
    refine xf_tabIn hX 88 xnd_SC_count_1 (by decide) (by decide) rfl (by decide) ?_
    refine xf_aload_n hX 89 rfl 0 xnd_SC_count_88 rfl rfl ?_
    refine xg_SC_tally hX 92 rfl xk_SC_10 xnd_SC_count_89 ?_
    refine xg_TA_waits hX 95 rfl xk_SC_140 xnd_SC_count_92 ?_
    refine xf_iret hX hE xnd_SC_count_95 ?_
    refine ⟨?_, rfl⟩
    simp only [xs_count, c1_0, c1_1, c1_2, c1_3, eq_true c1_4, if_true, if_false]
  by_cases c1_5 : k = 5
  · rw [c1_5]
    refine xf_tabIn hX 96 xnd_SC_count_1 (by decide) (by decide) rfl (by decide) ?_
    refine xf_aload_n hX 97 rfl 0 xnd_SC_count_96 rfl rfl ?_
    refine xg_SC_tally hX 100 rfl xk_SC_10 xnd_SC_count_97 ?_
    refine xg_TA_nearMisses hX 103 rfl xk_SC_143 xnd_SC_count_100 ?_
    refine xf_iret hX hE xnd_SC_count_103 ?_
    refine ⟨?_, rfl⟩
    simp only [xs_count, c1_0, c1_1, c1_2, c1_3, c1_4, eq_true c1_5, if_true, if_false]
  by_cases c1_6 : k = 6
  · rw [c1_6]
    refine xf_tabIn hX 104 xnd_SC_count_1 (by decide) (by decide) rfl (by decide) ?_
    refine xf_aload_n hX 105 rfl 0 xnd_SC_count_104 rfl rfl ?_
    refine xg_SC_tally hX 108 rfl xk_SC_10 xnd_SC_count_105 ?_
    refine xg_TA_expiredRemoved hX 111 rfl xk_SC_146 xnd_SC_count_108 ?_
    refine xf_iret hX hE xnd_SC_count_111 ?_
    refine ⟨?_, rfl⟩
    simp only [xs_count, c1_0, c1_1, c1_2, c1_3, c1_4, c1_5, eq_true c1_6, if_true, if_false]
  by_cases c1_7 : k = 7
  · rw [c1_7]
    refine xf_tabIn hX 112 xnd_SC_count_1 (by decide) (by decide) rfl (by decide) ?_
    refine xf_aload_n hX 113 rfl 0 xnd_SC_count_112 rfl rfl ?_
    refine xg_SC_store hX 116 rfl xk_SC_25 xnd_SC_count_113 ?_
    refine xg_ST_time hX 119 rfl xk_SC_83 xnd_SC_count_116 ?_
    refine xf_iret hX hE xnd_SC_count_119 ?_
    refine ⟨?_, rfl⟩
    simp only [xs_count, c1_0, c1_1, c1_2, c1_3, c1_4, c1_5, c1_6, eq_true c1_7, if_true, if_false]
  by_cases c1_8 : k = 8
  · rw [c1_8]
    refine xf_tabIn hX 120 xnd_SC_count_1 (by decide) (by decide) rfl (by decide) ?_
    refine xf_aload_n hX 121 rfl 0 xnd_SC_count_120 rfl rfl ?_
    refine xg_SC_writer hX 124 rfl xk_SC_34 xnd_SC_count_121 ?_
    refine xg_WR_hand hX 127 rfl xk_SC_149 xnd_SC_count_124 ?_
    refine xf_iret hX hE xnd_SC_count_127 ?_
    refine ⟨?_, rfl⟩
    simp only [xs_count, c1_0, c1_1, c1_2, c1_3, c1_4, c1_5, c1_6, c1_7, eq_true c1_8, if_true, if_false]
  by_cases c1_9 : k = 9
  · rw [c1_9]
    refine xf_tabIn hX 128 xnd_SC_count_1 (by decide) (by decide) rfl (by decide) ?_
    refine xf_aload_n hX 129 rfl 0 xnd_SC_count_128 rfl rfl ?_
    refine xg_SC_store hX 132 rfl xk_SC_25 xnd_SC_count_129 ?_
    refine xg_ST_latestToken hX 135 rfl xk_SC_152 xnd_SC_count_132 ?_
    refine xf_iret hX hE xnd_SC_count_135 ?_
    refine ⟨?_, rfl⟩
    simp only [xs_count, c1_0, c1_1, c1_2, c1_3, c1_4, c1_5, c1_6, c1_7, c1_8, eq_true c1_9, if_true, if_false]
  have n0 := lv_neT c1_0 (by decide : ((0 : Int32)).toInt = 0)
  have n1 := lv_neT c1_1 (by decide : ((1 : Int32)).toInt = 1)
  have n2 := lv_neT c1_2 (by decide : ((2 : Int32)).toInt = 2)
  have n3 := lv_neT c1_3 (by decide : ((3 : Int32)).toInt = 3)
  have n4 := lv_neT c1_4 (by decide : ((4 : Int32)).toInt = 4)
  have n5 := lv_neT c1_5 (by decide : ((5 : Int32)).toInt = 5)
  have n6 := lv_neT c1_6 (by decide : ((6 : Int32)).toInt = 6)
  have n7 := lv_neT c1_7 (by decide : ((7 : Int32)).toInt = 7)
  have n8 := lv_neT c1_8 (by decide : ((8 : Int32)).toInt = 8)
  have n9 := lv_neT c1_9 (by decide : ((9 : Int32)).toInt = 9)
  refine xf_tabOut hX 136 xnd_SC_count_1 (by omega) (by decide) ?_
  refine xf_iconst hX 137 rfl (-1) xnd_SC_count_136 (by decide) ?_
  refine xf_iret hX hE xnd_SC_count_137 ?_
  refine ⟨?_, rfl⟩
  simp only [xs_count, c1_0, c1_1, c1_2, c1_3, c1_4, c1_5, c1_6, c1_7, c1_8, c1_9, if_true, if_false]

set_option maxRecDepth 100000 in
set_option maxHeartbeats 4000000 in
theorem xc_work (P : xw_T) (σ τ : xf_T) (kk : Int32) (I : xf_T → Prop) (h0 : I σ) (hs : ∀ s, I s → s.1 9 = 0 → xs_okW (xw_n P) (xw_w P) s ∧ I (xs_goOn (xw_n P) (xw_w P) s)) : xf_F (xw_l P) xny_SC_work xnc_SC_work 3 (some .int) 7 147 (xw_W P) (xw_D P) (xw_ty P) [.ref (xw_a P 0), .int kk] (σ, τ) (some (.int ((xs_wk (xw_n P) (xw_w P) σ kk).2))) ((xs_wk (xw_n P) (xw_w P) σ kk).1, τ) := by
  refine xf_start (own := xnR_SC) [some (.ref (xw_a P 0)), some (.int kk), none] rfl (by decide) (Nat.le_of_ble_eq_true rfl) rfl (xf_cat rfl) ?_
  intro X hX hE
  have loop : ∀ {k RES}, k < 2 ^ 31 → xf_end X (some .int) (fun v u => v = some (.int RES.2) ∧ u = (RES.1, τ)) → ∀ r d s, r + d = k → I s → xs_work (xw_n P) (xw_w P) r s (nI d) = RES → xf_V X 12 [some (.ref (xw_a P 0)), some (.int (nI k)), some (.int (nI d))] [] (s, τ) := by
    intro k RES hk hE r
    induction r with
    | zero =>
      intro d s hd hIs hR
      refine xf_iload_n hX 13 rfl 2 xnd_SC_work_12 rfl rfl ?_
      refine xf_iload_n hX 14 rfl 1 xnd_SC_work_13 rfl rfl ?_
      refine xf_icmp_ge hX 17 rfl 40 xnd_SC_work_14 (by decide) (fun _ => ?_) (fun h14 => absurd (nI_le (by omega) (by omega)) h14)
      refine xf_iload_n hX 41 rfl 2 xnd_SC_work_40 rfl rfl ?_
      refine xf_iret hX hE xnd_SC_work_41 ?_
      rw [← hR]
      exact ⟨rfl, rfl⟩
    | succ r ih =>
      intro d s hd hIs hR
      by_cases hu : s.1 9 = 0
      · have hu1 : xs_uw s = 1 := by unfold xs_uw; rw [if_pos hu]
        refine xf_iload_n hX 13 rfl 2 xnd_SC_work_12 rfl rfl ?_
        refine xf_iload_n hX 14 rfl 1 xnd_SC_work_13 rfl rfl ?_
        refine xf_icmp_ge hX 17 rfl 40 xnd_SC_work_14 (by decide) (fun h14 => absurd h14 (nI_ge (by omega) (by omega))) (fun _ => ?_)
        refine xf_aload_n hX 18 rfl 0 xnd_SC_work_17 rfl rfl ?_
        refine xg_SC_writer hX 21 rfl xk_SC_34 xnd_SC_work_18 ?_
        refine xf_V0i hX 24 rfl (xc_uw P _ _) xq_WR_isUnderWay xk_SC_47 xrX_WR rfl rfl xnd_SC_work_21 ?_
        rw [hu1]
        refine xf_if_eq hX 27 rfl 40 xnd_SC_work_24 (by decide) (fun h24 => absurd h24 (by decide)) (fun _ => ?_)
        refine xf_aload_n hX 28 rfl 0 xnd_SC_work_27 rfl rfl ?_
        refine xg_SC_writer hX 31 rfl xk_SC_34 xnd_SC_work_28 ?_
        refine xf_V0v hX 34 rfl (xc_goOn P _ _ (hs s hIs hu).1) xq_WR_goOn xk_SC_55 xrX_WR rfl rfl xnd_SC_work_31 ?_
        refine xf_iinc hX 37 rfl (nI (d + 1)) xnd_SC_work_34 rfl (by rw [nI_succ]; rfl) (by decide) ?_
        dsimp only [List.set]
        refine xf_goto hX 12 xnd_SC_work_37 (by decide) ?_
        rw [xs_work, if_pos hu, nI_1] at hR
        exact ih (d + 1) _ (by omega) (hs s hIs hu).2 hR
      · have hu0 : xs_uw s = 0 := by unfold xs_uw; rw [if_neg hu]
        refine xf_iload_n hX 13 rfl 2 xnd_SC_work_12 rfl rfl ?_
        refine xf_iload_n hX 14 rfl 1 xnd_SC_work_13 rfl rfl ?_
        refine xf_icmp_ge hX 17 rfl 40 xnd_SC_work_14 (by decide) (fun h14 => absurd h14 (nI_ge (by omega) (by omega))) (fun _ => ?_)
        refine xf_aload_n hX 18 rfl 0 xnd_SC_work_17 rfl rfl ?_
        refine xg_SC_writer hX 21 rfl xk_SC_34 xnd_SC_work_18 ?_
        refine xf_V0i hX 24 rfl (xc_uw P _ _) xq_WR_isUnderWay xk_SC_47 xrX_WR rfl rfl xnd_SC_work_21 ?_
        rw [hu0]
        refine xf_if_eq hX 27 rfl 40 xnd_SC_work_24 (by decide) (fun _ => ?_) (fun h24 => absurd rfl h24)
        refine xf_iload_n hX 41 rfl 2 xnd_SC_work_40 rfl rfl ?_
        refine xf_iret hX hE xnd_SC_work_41 ?_
        rw [xs_work, if_neg hu] at hR
        rw [← hR]
        exact ⟨rfl, rfl⟩
  refine xf_iconst hX 1 rfl (0) xnd_SC_work_0 (by decide) ?_
  refine xf_istore_n hX 2 rfl 2 xnd_SC_work_1 rfl (by decide) ?_
  dsimp only [List.set]
  refine xf_iload_n hX 3 rfl 1 xnd_SC_work_2 rfl rfl ?_
  refine xf_iconst hX 4 rfl (1) xnd_SC_work_3 (by decide) ?_
  refine xf_bipush hX 6 rfl (50) xnd_SC_work_4 (by decide) ?_
  refine xf_S3i hX 9 rfl (xc_isW P _ _ _ _ _) xq_SC_isWithin xk_SC_18 rfl rfl xnd_SC_work_6 ?_
  refine xf_if_eq hX 12 rfl 40 xnd_SC_work_9 (by decide) (fun h9 => ?_) (fun h9 => ?_)
  · have e9 : xs_wk (xw_n P) (xw_w P) σ kk = (σ, 0) := by unfold xs_wk; rw [if_pos h9]
    rw [e9] at hE
    refine xf_iload_n hX 41 rfl 2 xnd_SC_work_40 rfl rfl ?_
    refine xf_iret hX hE xnd_SC_work_41 ?_
    exact ⟨rfl, rfl⟩
  · have e9 : xs_wk (xw_n P) (xw_w P) σ kk = xs_work (xw_n P) (xw_w P) kk.toNatClampNeg σ 0 := by unfold xs_wk; rw [if_neg h9]
    rw [e9] at hE
    obtain ⟨k, hk, rfl⟩ : ∃ k : Nat, k < 2 ^ 31 ∧ kk = nI k := by
      unfold xs_isW at h9
      by_cases h1 : kk < 1
      · rw [if_pos h1] at h9; exact absurd rfl h9
      · refine nI_of (fun h0 => h1 ?_)
        rw [Int32.lt_iff_toInt_lt] at h0 ⊢
        have : ((0 : Int32)).toInt = 0 := by decide
        have : ((1 : Int32)).toInt = 1 := by decide
        omega
    rw [nI_clamp hk] at hE
    exact loop hk hE k 0 σ (by omega) h0 rfl
end
section
/-! Contracts of the reference: numbers, looks, items. Laid by wip/gen/model1.py. -/
def xm_okP (n w : Nat) (τ : xf_T) : Prop := (∀ p, p < 8 * w → τ.2 1 p = 0 ∨ ∃ i, i < n ∧ τ.2 1 p = nI (i + 1)) ∧ 1 ≤ n ∧ n ≤ 32 ∧ 1 ≤ w ∧ w ≤ 4
theorem xm_okP.in {n w : Nat} {τ : xf_T} (h : xm_okP n w τ) {p : Nat} (hp : p < 8 * w) (hn : ¬ τ.2 1 p = 0) : vp_in (τ.2 1 p - 1) 32 := by
  have hw := h.2
  rcases h.1 p hp with g | ⟨i, g1, g2⟩
  · exact absurd g hn
  · rw [g2, nI_pred]
    exact vp_in_nI (by omega) (by omega)
theorem xm_okP.ne {n w : Nat} {τ : xf_T} (h : xm_okP n w τ) {p : Nat} (hp : p < 8 * w) : (τ.2 1 p - 1 < 0 ↔ τ.2 1 p = 0) ∧ (τ.2 1 p ≤ 0 ↔ τ.2 1 p = 0) := by
  have hw := h.2
  rcases h.1 p hp with g | ⟨i, g1, g2⟩
  · rw [g]; exact ⟨⟨fun _ => rfl, fun _ => by decide⟩, ⟨fun _ => rfl, fun _ => by decide⟩⟩
  · rw [g2, nI_pred]
    exact ⟨⟨fun z => absurd z (nI_pos (by omega)), fun z => absurd z (nI_ne0 (by omega) (by omega))⟩, ⟨fun z => absurd z (nI_nle (by omega) (by omega)), fun z => absurd z (nI_ne0 (by omega) (by omega))⟩⟩
theorem xm_okP.cg {n w : Nat} {τ τ' : xf_T} (h : xm_okP n w τ) (e : τ'.2 1 = τ.2 1) : xm_okP n w τ' := by
  unfold xm_okP
  rw [e]
  exact h
theorem xm_bk_is (k c : Int32) : ∃ j, j < 8 ∧ xm_bk k c = nI j := by
  unfold xm_bk
  split
  · exact xs_b1_is k
  · exact xs_b2_is k
theorem xm_rmf_0 (hd : Nat → Int32) (i : Int32) : xm_rmf 0 hd i = hd := by
  funext p
  rw [xm_rmf, if_neg (by omega)]
theorem xm_rmf_s (hd : Nat → Int32) (i : Int32) (k : Nat) : upd (xm_rmf k hd i) k (if hd k = i + 1 then 0 else hd k) = xm_rmf (k + 1) hd i := by
  funext p
  by_cases h2 : p = k
  · subst h2
    rw [pk_us, xm_rmf, if_pos (show p < p + 1 by omega)]
  · rw [pk_un h2, xm_rmf, xm_rmf]
    by_cases h1 : p < k
    · rw [if_pos h1, if_pos (show p < k + 1 by omega)]
    · rw [if_neg h1, if_neg (show ¬ p < k + 1 by omega)]
theorem xm_rmf_at (hd : Nat → Int32) (i : Int32) (k : Nat) : xm_rmf k hd i k = hd k := by rw [xm_rmf, if_neg (by omega)]
theorem xm_si_is (hd ky : Nat → Int32) (key : Int32) : ∀ (r p : Nat), xm_si hd ky key r p = -1 ∨ ∃ q, p ≤ q ∧ q < p + r ∧ xm_si hd ky key r p = nI q
  | 0, p => Or.inl rfl
  | r + 1, p => by
    rw [xm_si]
    split
    · rcases xm_si_is hd ky key r (p + 1) with h | ⟨q, a, b, c⟩
      · exact Or.inl h
      · exact Or.inr ⟨q, by omega, by omega, c⟩
    · split
      · exact Or.inr ⟨p, by omega, by omega, rfl⟩
      · rcases xm_si_is hd ky key r (p + 1) with h | ⟨q, a, b, c⟩
        · exact Or.inl h
        · exact Or.inr ⟨q, by omega, by omega, c⟩
set_option maxRecDepth 100000 in
set_option maxHeartbeats 4000000 in
theorem xm_cmix (P : xw_T) (σ τ : xf_T) (k : Int32) : xf_F (xw_l P) xny_MO_mix xnc_MO_mix 1 (some .int) 0 0 (xw_W P) (xw_D P) (xw_ty P) [.int k] (σ, τ) (some (.int (xs_mix k))) (σ, τ) := by
  refine xf_start (own := xnR_MO) [some (.int k)] rfl (by decide) (Nat.le_of_ble_eq_true rfl) rfl (xf_cat rfl) ?_
  intro X hX hE
  refine xf_iload_n hX 1 rfl 0 xnd_MO_mix_0 rfl rfl ?_
  refine xf_iload_n hX 2 rfl 0 xnd_MO_mix_1 rfl rfl ?_
  refine xf_bipush hX 4 rfl (15) xnd_MO_mix_2 (by decide) ?_
  refine xf_iushr hX 5 rfl xnd_MO_mix_4 ?_
  refine xf_ixor hX 6 rfl xnd_MO_mix_5 ?_
  refine xf_ldc hX 8 rfl xkc_MO_72 xnd_MO_mix_6 ?_
  refine xf_imul hX 9 rfl xnd_MO_mix_8 ?_
  refine xf_iret hX hE xnd_MO_mix_9 ?_
  exact ⟨rfl, rfl⟩

set_option maxRecDepth 100000 in
set_option maxHeartbeats 4000000 in
theorem xm_ctag (P : xw_T) (σ τ : xf_T) (k : Int32) : xf_F (xw_l P) xny_MO_tag xnc_MO_tag 1 (some .int) 1 20 (xw_W P) (xw_D P) (xw_ty P) [.int k] (σ, τ) (some (.int (xs_tag k))) (σ, τ) := by
  refine xf_start (own := xnR_MO) [some (.int k)] rfl (by decide) (Nat.le_of_ble_eq_true rfl) rfl (xf_cat rfl) ?_
  intro X hX hE
  refine xf_iload_n hX 1 rfl 0 xnd_MO_tag_0 rfl rfl ?_
  refine xf_S1i hX 4 rfl (xm_cmix P _ _ _) xq_MO_mix xk_MO_73 rfl rfl xnd_MO_tag_1 ?_
  refine xf_bipush hX 6 rfl (28) xnd_MO_tag_4 (by decide) ?_
  refine xf_iushr hX 7 rfl xnd_MO_tag_6 ?_
  refine xf_iret hX hE xnd_MO_tag_7 ?_
  exact ⟨rfl, rfl⟩

set_option maxRecDepth 100000 in
set_option maxHeartbeats 4000000 in
theorem xm_cstr (P : xw_T) (σ τ : xf_T) (k : Int32) : xf_F (xw_l P) xny_MO_stripe xnc_MO_stripe 1 (some .int) 1 20 (xw_W P) (xw_D P) (xw_ty P) [.int k] (σ, τ) (some (.int (xs_str k))) (σ, τ) := by
  refine xf_start (own := xnR_MO) [some (.int k)] rfl (by decide) (Nat.le_of_ble_eq_true rfl) rfl (xf_cat rfl) ?_
  intro X hX hE
  refine xf_iload_n hX 1 rfl 0 xnd_MO_stripe_0 rfl rfl ?_
  refine xf_S1i hX 4 rfl (xm_cmix P _ _ _) xq_MO_mix xk_MO_73 rfl rfl xnd_MO_stripe_1 ?_
  refine xf_bipush hX 6 rfl (23) xnd_MO_stripe_4 (by decide) ?_
  refine xf_iushr hX 7 rfl xnd_MO_stripe_6 ?_
  refine xf_iconst hX 8 rfl (3) xnd_MO_stripe_7 (by decide) ?_
  refine xf_iand hX 9 rfl xnd_MO_stripe_8 ?_
  refine xf_iret hX hE xnd_MO_stripe_9 ?_
  exact ⟨rfl, rfl⟩

set_option maxRecDepth 100000 in
set_option maxHeartbeats 4000000 in
theorem xm_cbk (P : xw_T) (σ τ : xf_T) (k c : Int32) : xf_F (xw_l P) xny_MO_bucket xnc_MO_bucket 3 (some .int) 2 40 (xw_W P) (xw_D P) (xw_ty P) [.int k, .int c] (σ, τ) (some (.int (xm_bk k c))) (σ, τ) := by
  refine xf_start (own := xnR_MO) [some (.int k), some (.int c), none] rfl (by decide) (Nat.le_of_ble_eq_true rfl) rfl (xf_cat rfl) ?_
  intro X hX hE
  refine xf_iload_n hX 1 rfl 0 xnd_MO_bucket_0 rfl rfl ?_
  refine xf_S1i hX 4 rfl (xm_cmix P _ _ _) xq_MO_mix xk_MO_73 rfl rfl xnd_MO_bucket_1 ?_
  refine xf_bipush hX 6 rfl (25) xnd_MO_bucket_4 (by decide) ?_
  refine xf_iushr hX 7 rfl xnd_MO_bucket_6 ?_
  refine xf_bipush hX 9 rfl (7) xnd_MO_bucket_7 (by decide) ?_
  refine xf_iand hX 10 rfl xnd_MO_bucket_9 ?_
  refine xf_istore_n hX 11 rfl 2 xnd_MO_bucket_10 rfl (by decide) ?_
  dsimp only [List.set]
  refine xf_iload_n hX 12 rfl 1 xnd_MO_bucket_11 rfl rfl ?_
  refine xf_if_ne hX 15 rfl 19 xnd_MO_bucket_12 (by decide) (fun h12 => ?_) (fun h12 => ?_)
  · refine xf_iload_n hX 20 rfl 2 xnd_MO_bucket_19 rfl rfl ?_
    refine xf_iconst hX 21 rfl (1) xnd_MO_bucket_20 (by decide) ?_
    refine xf_iload_n hX 22 rfl 0 xnd_MO_bucket_21 rfl rfl ?_
    refine xf_S1i hX 25 rfl (xm_ctag P _ _ _) xq_MO_tag xk_MO_77 rfl rfl xnd_MO_bucket_22 ?_
    refine xf_bipush hX 27 rfl (7) xnd_MO_bucket_25 (by decide) ?_
    refine xf_irem hX 28 rfl xnd_MO_bucket_27 (by decide) ?_
    refine xf_iadd hX 29 rfl xnd_MO_bucket_28 ?_
    refine xf_ixor hX 30 rfl xnd_MO_bucket_29 ?_
    refine xf_iret hX hE xnd_MO_bucket_30 ?_
    refine ⟨?_, rfl⟩
    simp only [xm_bk, h12, if_true, if_false]
    try rfl
  · refine xf_iload_n hX 16 rfl 2 xnd_MO_bucket_15 rfl rfl ?_
    refine xf_goto hX 30 xnd_MO_bucket_16 (by decide) ?_
    refine xf_iret hX hE xnd_MO_bucket_30 ?_
    refine ⟨?_, rfl⟩
    simp only [xm_bk, eq_true h12, if_true, if_false]
    try rfl

theorem xm_bk0 (k : Int32) : xm_bk k 0 = xs_b1 k := by unfold xm_bk; rw [if_pos rfl]
theorem xm_bk1 (k : Int32) : xm_bk k 1 = xs_b2 k := by unfold xm_bk; rw [if_neg (by decide)]
set_option maxRecDepth 100000 in
set_option maxHeartbeats 4000000 in
theorem xm_chash (P : xw_T) (σ τ : xf_T) (k : Int32) : xf_F (xw_l P) xny_MO_hash xnc_MO_hash 2 (some .int) 3 62 (xw_W P) (xw_D P) (xw_ty P) [.ref (xw_a P 100), .int k] (σ, τ) (some (.int (xs_hash k))) (σ, τ) := by
  refine xf_start (own := xnR_MO) [some (.ref (xw_a P 100)), some (.int k)] rfl (by decide) (Nat.le_of_ble_eq_true rfl) rfl (xf_cat rfl) ?_
  intro X hX hE
  refine xf_iload_n hX 1 rfl 1 xnd_MO_hash_0 rfl rfl ?_
  refine xf_iconst hX 2 rfl (0) xnd_MO_hash_1 (by decide) ?_
  refine xf_S2i hX 5 rfl (xm_cbk P _ _ _ _) xq_MO_bucket xk_MO_80 rfl rfl xnd_MO_hash_2 ?_
  refine xf_bipush hX 7 rfl (8) xnd_MO_hash_5 (by decide) ?_
  refine xf_iload_n hX 8 rfl 1 xnd_MO_hash_7 rfl rfl ?_
  refine xf_iconst hX 9 rfl (1) xnd_MO_hash_8 (by decide) ?_
  refine xf_S2i hX 12 rfl (xm_cbk P _ _ _ _) xq_MO_bucket xk_MO_80 rfl rfl xnd_MO_hash_9 ?_
  refine xf_imul hX 13 rfl xnd_MO_hash_12 ?_
  refine xf_iadd hX 14 rfl xnd_MO_hash_13 ?_
  refine xf_bipush hX 16 rfl (64) xnd_MO_hash_14 (by decide) ?_
  refine xf_iload_n hX 17 rfl 1 xnd_MO_hash_16 rfl rfl ?_
  refine xf_S1i hX 20 rfl (xm_ctag P _ _ _) xq_MO_tag xk_MO_77 rfl rfl xnd_MO_hash_17 ?_
  refine xf_imul hX 21 rfl xnd_MO_hash_20 ?_
  refine xf_iadd hX 22 rfl xnd_MO_hash_21 ?_
  refine xf_sipush hX 25 rfl (1024) xnd_MO_hash_22 (by decide) ?_
  refine xf_iload_n hX 26 rfl 1 xnd_MO_hash_25 rfl rfl ?_
  refine xf_S1i hX 29 rfl (xm_cstr P _ _ _) xq_MO_stripe xk_MO_84 rfl rfl xnd_MO_hash_26 ?_
  refine xf_imul hX 30 rfl xnd_MO_hash_29 ?_
  refine xf_iadd hX 31 rfl xnd_MO_hash_30 ?_
  refine xf_iret hX hE xnd_MO_hash_31 ?_
  refine ⟨?_, rfl⟩
  rw [xm_bk0, xm_bk1]
  rfl

set_option maxRecDepth 100000 in
set_option maxHeartbeats 4000000 in
theorem xm_cover (P : xw_T) (σ τ : xf_T) (e : Int32) : xf_F (xw_l P) xny_MO_over xnc_MO_over 2 (some .boolean) 0 0 (xw_W P) (xw_D P) (xw_ty P) [.ref (xw_a P 100), .int e] (σ, τ) (some (.int (xm_over τ e))) (σ, τ) := by
  refine xf_start (own := xnR_MO) [some (.ref (xw_a P 100)), some (.int e)] rfl (by decide) (Nat.le_of_ble_eq_true rfl) rfl (xf_cat rfl) ?_
  intro X hX hE
  refine xf_iload_n hX 1 rfl 1 xnd_MO_over_0 rfl rfl ?_
  refine xf_if_eq hX 4 rfl 16 xnd_MO_over_1 (by decide) (fun h1 => ?_) (fun h1 => ?_)
  · refine xf_iconst hX 17 rfl (0) xnd_MO_over_16 (by decide) ?_
    refine xf_zret hX hE xnd_MO_over_17 rfl ?_
    refine ⟨?_, rfl⟩
    simp only [xm_over, eq_true h1, if_true, if_false]
  · refine xf_iload_n hX 5 rfl 1 xnd_MO_over_4 rfl rfl ?_
    refine xf_aload_n hX 6 rfl 0 xnd_MO_over_5 rfl rfl ?_
    refine xg_MO_time hX 9 rfl xk_MO_96 xnd_MO_over_6 ?_
    refine xf_icmp_gt hX 12 rfl 16 xnd_MO_over_9 (by decide) (fun h9 => ?_) (fun h9 => ?_)
    · refine xf_iconst hX 17 rfl (0) xnd_MO_over_16 (by decide) ?_
      refine xf_zret hX hE xnd_MO_over_17 rfl ?_
      refine ⟨?_, rfl⟩
      simp only [xm_over, h1, h9, if_true, if_false]
    · refine xf_iconst hX 13 rfl (1) xnd_MO_over_12 (by decide) ?_
      refine xf_goto hX 17 xnd_MO_over_13 (by decide) ?_
      refine xf_zret hX hE xnd_MO_over_17 rfl ?_
      refine ⟨?_, rfl⟩
      simp only [xm_over, h1, h9, if_true, if_false]

set_option maxRecDepth 100000 in
set_option maxHeartbeats 4000000 in
theorem xm_cfin (P : xw_T) (σ τ : xf_T) (v : Int32) : xf_F (xw_l P) xny_MO_finish xnc_MO_finish 2 none 0 0 (xw_W P) (xw_D P) (xw_ty P) [.ref (xw_a P 100), .int v] (σ, τ) none (σ, xm_fin τ v) := by
  refine xf_start (own := xnR_MO) [some (.ref (xw_a P 100)), some (.int v)] rfl (by decide) (Nat.le_of_ble_eq_true rfl) rfl (xf_cat rfl) ?_
  intro X hX hE
  refine xf_aload_n hX 1 rfl 0 xnd_MO_finish_0 rfl rfl ?_
  refine xf_iconst hX 2 rfl (0) xnd_MO_finish_1 (by decide) ?_
  refine xp_MO_next hX 5 rfl xk_MO_99 xnd_MO_finish_2 ?_
  refine xf_aload_n hX 6 rfl 0 xnd_MO_finish_5 rfl rfl ?_
  refine xf_iload_n hX 7 rfl 1 xnd_MO_finish_6 rfl rfl ?_
  refine xp_MO_result hX 10 rfl xk_MO_35 xnd_MO_finish_7 ?_
  refine xf_vret hX hE xnd_MO_finish_10 ?_
  exact ⟨rfl, rfl⟩

set_option maxRecDepth 100000 in
set_option maxHeartbeats 4000000 in
theorem xm_csea (P : xw_T) (σ τ : xf_T) (key c : Int32) (ho : xm_okP (xw_n P) (xw_w P) τ) : xf_F (xw_l P) xny_MO_search xnc_MO_search 6 (some .int) 3 62 (xw_W P) (xw_D P) (xw_ty P) [.ref (xw_a P 100), .int key, .int c] (σ, τ) (some (.int (xm_sea (xw_w P) τ key c))) (σ, τ) := by
  refine xf_start (own := xnR_MO) [some (.ref (xw_a P 100)), some (.int key), some (.int c), none, none, none] rfl (by decide) (Nat.le_of_ble_eq_true rfl) rfl (xf_cat rfl) ?_
  intro X hX hE
  have hw := ho.2
  obtain ⟨j, hj, eb⟩ := xm_bk_is key c
  have h8 := xr_bkb (w := (xw_w P)) hj
  have eR : xm_sea (xw_w P) τ key c = xm_si (τ.2 1) (τ.2 3) key (xw_w P) ((xw_w P) * j) := by unfold xm_sea; rw [eb, nI_clamp (by omega)]
  rw [eR] at hE
  generalize hRR : xm_si (τ.2 1) (τ.2 3) key (xw_w P) ((xw_w P) * j) = RR at hE
  have loop : ∀ r s x5, r + s = (xw_w P) → xm_si (τ.2 1) (τ.2 3) key r ((xw_w P) * j + s) = RR → xf_V X 9 [some (.ref (xw_a P 100)), some (.int key), some (.int c), some (.int (nI j)), some (.int (nI s)), x5] [] (σ, τ) := by
    intro r
    induction r with
    | zero =>
      intro s x5 hs hR
      refine xf_iload hX 11 rfl xnd_MO_search_9 rfl ?_
      refine xf_aload_n hX 12 rfl 0 xnd_MO_search_11 rfl rfl ?_
      refine xg_MO_ways hX 15 rfl xk_MO_69 xnd_MO_search_12 ?_
      refine xf_icmp_ge hX 18 rfl 68 xnd_MO_search_15 (by decide) (fun _ => ?_) (fun h15 => absurd (nI_le (by omega) (by omega)) h15)
      refine xf_iconst hX 69 rfl (-1) xnd_MO_search_68 (by decide) ?_
      refine xf_iret hX hE xnd_MO_search_69 ?_
      exact ⟨by rw [← hR]; rfl, rfl⟩
    | succ r ih =>
      intro s x5 hs hR
      refine xf_iload hX 11 rfl xnd_MO_search_9 rfl ?_
      refine xf_aload_n hX 12 rfl 0 xnd_MO_search_11 rfl rfl ?_
      refine xg_MO_ways hX 15 rfl xk_MO_69 xnd_MO_search_12 ?_
      refine xf_icmp_ge hX 18 rfl 68 xnd_MO_search_15 (by decide) (fun h15 => absurd h15 (nI_ge (by omega) (by omega))) (fun _ => ?_)
      refine xf_aload_n hX 19 rfl 0 xnd_MO_search_18 rfl rfl ?_
      refine xg_MO_held hX 22 rfl xk_MO_7 xnd_MO_search_19 ?_
      refine xf_aload_n hX 23 rfl 0 xnd_MO_search_22 rfl rfl ?_
      refine xg_MO_ways hX 26 rfl xk_MO_69 xnd_MO_search_23 ?_
      refine xf_iload_n hX 27 rfl 3 xnd_MO_search_26 rfl rfl ?_
      refine xf_imul hX 28 rfl xnd_MO_search_27 ?_
      refine xf_iload hX 30 rfl xnd_MO_search_28 rfl ?_
      refine xf_iadd hX 31 rfl xnd_MO_search_30 ?_
      rw [pk_mul, nI_add]
      refine xaM_iaload hX 32 rfl rfl (show vp_in _ 32 from vp_in_nI (by omega) (by omega)) xnd_MO_search_31 ?_
      rw [nI_clamp (by omega)]
      refine xf_iconst hX 33 rfl (1) xnd_MO_search_32 (by decide) ?_
      refine xf_isub hX 34 rfl xnd_MO_search_33 ?_
      refine xf_istore hX 36 rfl xnd_MO_search_34 (by decide) ?_
      dsimp only [List.set]
      refine xf_iload hX 38 rfl xnd_MO_search_36 rfl ?_
      refine xf_if_lt hX 41 rfl 62 xnd_MO_search_38 (by decide) (fun h38 => ?_) (fun h38 => ?_)
      · refine xf_iinc hX 65 rfl (nI (s + 1)) xnd_MO_search_62 rfl (by rw [nI_succ]; rfl) (by decide) ?_
        dsimp only [List.set]
        refine xf_goto hX 9 xnd_MO_search_65 (by decide) ?_
        refine ih (s + 1) _ (by omega) ?_
        rw [← hR, xm_si]
        simp only [h38, if_true, if_false, Nat.add_assoc]
      · refine xf_aload_n hX 42 rfl 0 xnd_MO_search_41 rfl rfl ?_
        refine xg_MO_keys hX 45 rfl xk_MO_17 xnd_MO_search_42 ?_
        refine xf_iload hX 47 rfl xnd_MO_search_45 rfl ?_
        refine xaM_iaload hX 48 rfl rfl (ho.in (p := (xw_w P) * j + s) (by omega) (fun z => h38 ((ho.ne (by omega)).1.mpr z))) xnd_MO_search_47 ?_
        refine xf_iload_n hX 49 rfl 1 xnd_MO_search_48 rfl rfl ?_
        refine xf_icmp_ne hX 52 rfl 62 xnd_MO_search_49 (by decide) (fun h49 => ?_) (fun h49 => ?_)
        · refine xf_iinc hX 65 rfl (nI (s + 1)) xnd_MO_search_62 rfl (by rw [nI_succ]; rfl) (by decide) ?_
          dsimp only [List.set]
          refine xf_goto hX 9 xnd_MO_search_65 (by decide) ?_
          refine ih (s + 1) _ (by omega) ?_
          rw [← hR, xm_si]
          simp only [h38, h49, if_true, if_false, Nat.add_assoc]
        · refine xf_aload_n hX 53 rfl 0 xnd_MO_search_52 rfl rfl ?_
          refine xg_MO_ways hX 56 rfl xk_MO_69 xnd_MO_search_53 ?_
          refine xf_iload_n hX 57 rfl 3 xnd_MO_search_56 rfl rfl ?_
          refine xf_imul hX 58 rfl xnd_MO_search_57 ?_
          refine xf_iload hX 60 rfl xnd_MO_search_58 rfl ?_
          refine xf_iadd hX 61 rfl xnd_MO_search_60 ?_
          rw [pk_mul, nI_add]
          refine xf_iret hX hE xnd_MO_search_61 ?_
          refine ⟨?_, rfl⟩
          rw [← hR, xm_si]
          simp only [h38, eq_true h49, if_true, if_false]
  refine xf_iload_n hX 1 rfl 1 xnd_MO_search_0 rfl rfl ?_
  refine xf_iload_n hX 2 rfl 2 xnd_MO_search_1 rfl rfl ?_
  refine xf_S2i hX 5 rfl (xm_cbk P _ _ _ _) xq_MO_bucket xk_MO_80 rfl rfl xnd_MO_search_2 ?_
  rw [eb]
  refine xf_istore_n hX 6 rfl 3 xnd_MO_search_5 rfl (by decide) ?_
  dsimp only [List.set]
  refine xf_iconst hX 7 rfl (0) xnd_MO_search_6 (by decide) ?_
  refine xf_istore hX 9 rfl xnd_MO_search_7 (by decide) ?_
  dsimp only [List.set]
  exact loop (xw_w P) 0 _ (by omega) hRR

set_option maxRecDepth 100000 in
set_option maxHeartbeats 4000000 in
theorem xm_cwhe (P : xw_T) (σ τ : xf_T) (key : Int32) (ho : xm_okP (xw_n P) (xw_w P) τ) : xf_F (xw_l P) xny_MO_where xnc_MO_where 3 (some .int) 4 87 (xw_W P) (xw_D P) (xw_ty P) [.ref (xw_a P 100), .int key] (σ, τ) (some (.int (xm_whe (xw_w P) τ key))) (σ, τ) := by
  refine xf_start (own := xnR_MO) [some (.ref (xw_a P 100)), some (.int key), none] rfl (by decide) (Nat.le_of_ble_eq_true rfl) rfl (xf_cat rfl) ?_
  intro X hX hE
  refine xf_aload_n hX 1 rfl 0 xnd_MO_where_0 rfl rfl ?_
  refine xf_iload_n hX 2 rfl 1 xnd_MO_where_1 rfl rfl ?_
  refine xf_iconst hX 3 rfl (0) xnd_MO_where_2 (by decide) ?_
  refine xf_V2i hX 6 rfl (xm_csea P _ _ _ _ ho) xq_MO_search xk_MO_87 xrM_MO rfl rfl xnd_MO_where_3 ?_
  refine xf_istore_n hX 7 rfl 2 xnd_MO_where_6 rfl (by decide) ?_
  dsimp only [List.set]
  refine xf_iload_n hX 8 rfl 2 xnd_MO_where_7 rfl rfl ?_
  refine xf_if_lt hX 11 rfl 15 xnd_MO_where_8 (by decide) (fun h8 => ?_) (fun h8 => ?_)
  · refine xf_aload_n hX 16 rfl 0 xnd_MO_where_15 rfl rfl ?_
    refine xf_iload_n hX 17 rfl 1 xnd_MO_where_16 rfl rfl ?_
    refine xf_iconst hX 18 rfl (1) xnd_MO_where_17 (by decide) ?_
    refine xf_V2i hX 21 rfl (xm_csea P _ _ _ _ ho) xq_MO_search xk_MO_87 xrM_MO rfl rfl xnd_MO_where_18 ?_
    refine xf_iret hX hE xnd_MO_where_21 ?_
    refine ⟨?_, rfl⟩
    simp only [xm_whe, h8, if_true, if_false]
  · refine xf_iload_n hX 12 rfl 2 xnd_MO_where_11 rfl rfl ?_
    refine xf_goto hX 21 xnd_MO_where_12 (by decide) ?_
    refine xf_iret hX hE xnd_MO_where_21 ?_
    refine ⟨?_, rfl⟩
    simp only [xm_whe, h8, if_true, if_false]

set_option maxRecDepth 100000 in
set_option maxHeartbeats 4000000 in
theorem xm_clook (P : xw_T) (σ τ : xf_T) (key c : Int32) (ho : xm_okP (xw_n P) (xw_w P) τ) : xf_F (xw_l P) xny_MO_look xnc_MO_look 7 (some .int) 4 87 (xw_W P) (xw_D P) (xw_ty P) [.ref (xw_a P 100), .int key, .int c] (σ, τ) (some (.int (xm_sea (xw_w P) τ key c))) (σ, xm_look (xw_w P) τ key c) := by
  refine xf_start (own := xnR_MO) [some (.ref (xw_a P 100)), some (.int key), some (.int c), none, none, none, none] rfl (by decide) (Nat.le_of_ble_eq_true rfl) rfl (xf_cat rfl) ?_
  intro X hX hE
  have hw := ho.2
  obtain ⟨j, hj, eb⟩ := xm_bk_is key c
  have h8 := xr_bkb (w := (xw_w P)) hj
  have ecl : (nI j).toNatClampNeg = j := nI_clamp (by omega)
  have e2 : nI (xw_w P) * nI j = nI ((xw_w P) * j) := pk_mul _ _
  generalize hF : xm_sea (xw_w P) τ key c = F at hE
  have hFc : F = -1 ∨ ∃ q, (xw_w P) * j ≤ q ∧ q < (xw_w P) * j + (xw_w P) ∧ F = nI q := by
    rw [← hF]
    unfold xm_sea
    rw [eb, ecl]
    exact xm_si_is _ _ _ _ _
  obtain ⟨cc0, hcc⟩ : ∃ c, c = (if F < 0 then (xw_w P) else F.toNatClampNeg - (xw_w P) * j) := ⟨_, rfl⟩
  have hcw : cc0 ≤ (xw_w P) := by
    rw [hcc]
    rcases hFc with g | ⟨q, g1, g2, g3⟩
    · rw [if_pos (by rw [g]; decide)]; exact Nat.le_refl _
    · rw [g3, if_neg (nI_pos (by omega)), nI_clamp (by omega)]; omega
  generalize hNR : xm_nr (τ.2 1) (τ.2 3) key cc0 ((xw_w P) * j) (τ.1 17) = NR
  have hFin : xm_look (xw_w P) τ key c = xf_I τ 17 NR := by
    unfold xm_look
    rw [hF, eb, ← hNR, hcc]
    unfold xm_cn
    rw [ecl]
  have loop : ∀ r p acc, r + p = (xw_w P) * j + cc0 → (xw_w P) * j ≤ p → xm_nr (τ.2 1) (τ.2 3) key r p acc = NR → xf_V X 45 [some (.ref (xw_a P 100)), some (.int key), some (.int c), some (.int F), some (.int (nI j)), some (.int (nI ((xw_w P) * j + cc0))), some (.int (nI p))] [] (σ, xf_I τ 17 acc) := by
    intro r
    induction r with
    | zero =>
      intro p acc hp hp2 hR
      refine xf_iload hX 47 rfl xnd_MO_look_45 rfl ?_
      refine xf_iload hX 49 rfl xnd_MO_look_47 rfl ?_
      refine xf_icmp_ge hX 52 rfl 102 xnd_MO_look_49 (by decide) (fun _ => ?_) (fun h49 => absurd (nI_le (by omega) (by omega)) h49)
      refine xf_iload_n hX 103 rfl 3 xnd_MO_look_102 rfl rfl ?_
      refine xf_iret hX hE xnd_MO_look_103 ?_
      exact ⟨rfl, by rw [hFin, ← hR]; rfl⟩
    | succ r ih =>
      intro p acc hp hp2 hR
      refine xf_iload hX 47 rfl xnd_MO_look_45 rfl ?_
      refine xf_iload hX 49 rfl xnd_MO_look_47 rfl ?_
      refine xf_icmp_ge hX 52 rfl 102 xnd_MO_look_49 (by decide) (fun h49 => absurd h49 (nI_ge (by omega) (by omega))) (fun _ => ?_)
      refine xf_aload_n hX 53 rfl 0 xnd_MO_look_52 rfl rfl ?_
      refine xg_MO_held hX 56 rfl xk_MO_7 xnd_MO_look_53 ?_
      refine xf_iload hX 58 rfl xnd_MO_look_56 rfl ?_
      refine xaM_iaload hX 59 rfl rfl (show vp_in _ 32 from vp_in_nI (by omega) (by omega)) xnd_MO_look_58 ?_
      rw [nI_clamp (by omega), xs_I2]
      refine xf_if_le hX 62 rfl 96 xnd_MO_look_59 (by decide) (fun h59 => ?_) (fun h59 => ?_)
      · refine xf_iinc hX 99 rfl (nI (p + 1)) xnd_MO_look_96 rfl (by rw [nI_succ]; rfl) (by decide) ?_
        dsimp only [List.set]
        refine xf_goto hX 45 xnd_MO_look_99 (by decide) ?_
        refine ih (p + 1) _ (by omega) (by omega) ?_
        rw [← hR, xm_nr]
        simp only [h59, if_true, if_false]
      · refine xf_aload_n hX 63 rfl 0 xnd_MO_look_62 rfl rfl ?_
        refine xg_MO_keys hX 66 rfl xk_MO_17 xnd_MO_look_63 ?_
        refine xf_aload_n hX 67 rfl 0 xnd_MO_look_66 rfl rfl ?_
        refine xg_MO_held hX 70 rfl xk_MO_7 xnd_MO_look_67 ?_
        refine xf_iload hX 72 rfl xnd_MO_look_70 rfl ?_
        refine xaM_iaload hX 73 rfl rfl (show vp_in _ 32 from vp_in_nI (by omega) (by omega)) xnd_MO_look_72 ?_
        rw [nI_clamp (by omega), xs_I2]
        refine xf_iconst hX 74 rfl (1) xnd_MO_look_73 (by decide) ?_
        refine xf_isub hX 75 rfl xnd_MO_look_74 ?_
        refine xaM_iaload hX 76 rfl rfl (ho.in (p := p) (by omega) (fun z => h59 ((ho.ne (by omega)).2.mpr z))) xnd_MO_look_75 ?_
        rw [xs_I2]
        refine xf_S1i hX 79 rfl (xm_ctag P _ _ _) xq_MO_tag xk_MO_77 rfl rfl xnd_MO_look_76 ?_
        refine xf_iload_n hX 80 rfl 1 xnd_MO_look_79 rfl rfl ?_
        refine xf_S1i hX 83 rfl (xm_ctag P _ _ _) xq_MO_tag xk_MO_77 rfl rfl xnd_MO_look_80 ?_
        refine xf_icmp_ne hX 86 rfl 96 xnd_MO_look_83 (by decide) (fun h83 => ?_) (fun h83 => ?_)
        · refine xf_iinc hX 99 rfl (nI (p + 1)) xnd_MO_look_96 rfl (by rw [nI_succ]; rfl) (by decide) ?_
          dsimp only [List.set]
          refine xf_goto hX 45 xnd_MO_look_99 (by decide) ?_
          refine ih (p + 1) _ (by omega) (by omega) ?_
          rw [← hR, xm_nr]
          simp only [h59, h83, if_true, if_false]
        · refine xf_aload_n hX 87 rfl 0 xnd_MO_look_86 rfl rfl ?_
          refine xf_dup hX 88 rfl xnd_MO_look_87 rfl ?_
          refine xg_MO_near hX 91 rfl xk_MO_90 xnd_MO_look_88 ?_
          refine xf_iconst hX 92 rfl (1) xnd_MO_look_91 (by decide) ?_
          refine xf_iadd hX 93 rfl xnd_MO_look_92 ?_
          refine xp_MO_near hX 96 rfl xk_MO_90 xnd_MO_look_93 ?_
          change xf_V X 96 _ [] (σ, xf_I (xf_I τ 17 acc) 17 (acc + 1))
          rw [xs_II]
          refine xf_iinc hX 99 rfl (nI (p + 1)) xnd_MO_look_96 rfl (by rw [nI_succ]; rfl) (by decide) ?_
          dsimp only [List.set]
          refine xf_goto hX 45 xnd_MO_look_99 (by decide) ?_
          refine ih (p + 1) _ (by omega) (by omega) ?_
          rw [← hR, xm_nr]
          simp only [h59, eq_true h83, if_true, if_false]
  have K : ∀ E, E = nI ((xw_w P) * j + cc0) → xf_V X 34 [some (.ref (xw_a P 100)), some (.int key), some (.int c), some (.int F), some (.int (nI j)), none, none] [.int E] (σ, τ) := by
    intro E hEE
    subst hEE
    refine xf_istore hX 36 rfl xnd_MO_look_34 (by decide) ?_
    dsimp only [List.set]
    refine xf_aload_n hX 37 rfl 0 xnd_MO_look_36 rfl rfl ?_
    refine xg_MO_ways hX 40 rfl xk_MO_69 xnd_MO_look_37 ?_
    refine xf_iload hX 42 rfl xnd_MO_look_40 rfl ?_
    refine xf_imul hX 43 rfl xnd_MO_look_42 ?_
    refine xf_istore hX 45 rfl xnd_MO_look_43 (by decide) ?_
    dsimp only [List.set]
    rw [e2]
    have V := loop cc0 ((xw_w P) * j) (τ.1 17) (by omega) (by omega) hNR
    rw [xs_I_id] at V
    exact V
  refine xf_aload_n hX 1 rfl 0 xnd_MO_look_0 rfl rfl ?_
  refine xf_iload_n hX 2 rfl 1 xnd_MO_look_1 rfl rfl ?_
  refine xf_iload_n hX 3 rfl 2 xnd_MO_look_2 rfl rfl ?_
  refine xf_V2i hX 6 rfl (xm_csea P _ _ _ _ ho) xq_MO_search xk_MO_87 xrM_MO rfl rfl xnd_MO_look_3 ?_
  rw [hF]
  refine xf_istore_n hX 7 rfl 3 xnd_MO_look_6 rfl (by decide) ?_
  dsimp only [List.set]
  refine xf_iload_n hX 8 rfl 1 xnd_MO_look_7 rfl rfl ?_
  refine xf_iload_n hX 9 rfl 2 xnd_MO_look_8 rfl rfl ?_
  refine xf_S2i hX 12 rfl (xm_cbk P _ _ _ _) xq_MO_bucket xk_MO_80 rfl rfl xnd_MO_look_9 ?_
  rw [eb]
  refine xf_istore hX 14 rfl xnd_MO_look_12 (by decide) ?_
  dsimp only [List.set]
  refine xf_iload_n hX 15 rfl 3 xnd_MO_look_14 rfl rfl ?_
  refine xf_if_ge hX 18 rfl 33 xnd_MO_look_15 (by decide) (fun h15 => ?_) (fun h15 => ?_)
  · refine xf_iload_n hX 34 rfl 3 xnd_MO_look_33 rfl rfl ?_
    refine K _ ?_
    rcases hFc with g | ⟨q, g1, g2, g3⟩
    · exact absurd (show F < 0 by rw [g]; decide) (by rw [Int32.not_lt]; exact h15)
    · rw [hcc, if_neg (by rw [Int32.not_lt]; exact h15), g3, nI_clamp (by omega)]; congr 1; omega
  · refine xf_aload_n hX 19 rfl 0 xnd_MO_look_18 rfl rfl ?_
    refine xg_MO_ways hX 22 rfl xk_MO_69 xnd_MO_look_19 ?_
    refine xf_iload hX 24 rfl xnd_MO_look_22 rfl ?_
    refine xf_imul hX 25 rfl xnd_MO_look_24 ?_
    refine xf_aload_n hX 26 rfl 0 xnd_MO_look_25 rfl rfl ?_
    refine xg_MO_ways hX 29 rfl xk_MO_69 xnd_MO_look_26 ?_
    refine xf_iadd hX 30 rfl xnd_MO_look_29 ?_
    refine xf_goto hX 34 xnd_MO_look_30 (by decide) ?_
    refine K _ ?_
    rw [hcc, if_pos (by rw [← Int32.not_le]; exact h15), pk_mul, nI_add]

set_option maxRecDepth 100000 in
set_option maxHeartbeats 4000000 in
theorem xm_clb (P : xw_T) (σ τ : xf_T) (key : Int32) (ho : xm_okP (xw_n P) (xw_w P) τ) : xf_F (xw_l P) xny_MO_lookBoth xnc_MO_lookBoth 3 (some .int) 5 113 (xw_W P) (xw_D P) (xw_ty P) [.ref (xw_a P 100), .int key] (σ, τ) (some (.int (xm_whe (xw_w P) τ key))) (σ, xm_lb (xw_w P) τ key) := by
  refine xf_start (own := xnR_MO) [some (.ref (xw_a P 100)), some (.int key), none] rfl (by decide) (Nat.le_of_ble_eq_true rfl) rfl (xf_cat rfl) ?_
  intro X hX hE
  refine xf_aload_n hX 1 rfl 0 xnd_MO_lookBoth_0 rfl rfl ?_
  refine xf_iload_n hX 2 rfl 1 xnd_MO_lookBoth_1 rfl rfl ?_
  refine xf_iconst hX 3 rfl (0) xnd_MO_lookBoth_2 (by decide) ?_
  refine xf_V2i hX 6 rfl (xm_clook P _ _ _ _ ho) xq_MO_look xk_MO_93 xrM_MO rfl rfl xnd_MO_lookBoth_3 ?_
  refine xf_istore_n hX 7 rfl 2 xnd_MO_lookBoth_6 rfl (by decide) ?_
  dsimp only [List.set]
  refine xf_iload_n hX 8 rfl 2 xnd_MO_lookBoth_7 rfl rfl ?_
  refine xf_if_lt hX 11 rfl 15 xnd_MO_lookBoth_8 (by decide) (fun h8 => ?_) (fun h8 => ?_)
  · refine xf_aload_n hX 16 rfl 0 xnd_MO_lookBoth_15 rfl rfl ?_
    refine xf_iload_n hX 17 rfl 1 xnd_MO_lookBoth_16 rfl rfl ?_
    refine xf_iconst hX 18 rfl (1) xnd_MO_lookBoth_17 (by decide) ?_
    refine xf_V2i hX 21 rfl (xm_clook P _ _ _ _ ho) xq_MO_look xk_MO_93 xrM_MO rfl rfl xnd_MO_lookBoth_18 ?_
    refine xf_iret hX hE xnd_MO_lookBoth_21 ?_
    refine ⟨?_, ?_⟩ <;> simp only [xm_whe, xm_lb, h8, if_true, if_false] <;> rfl
  · refine xf_iload_n hX 12 rfl 2 xnd_MO_lookBoth_11 rfl rfl ?_
    refine xf_goto hX 21 xnd_MO_lookBoth_12 (by decide) ?_
    refine xf_iret hX hE xnd_MO_lookBoth_21 ?_
    refine ⟨?_, ?_⟩ <;> simp only [xm_whe, xm_lb, h8, if_true, if_false] <;> rfl

set_option maxRecDepth 100000 in
set_option maxHeartbeats 4000000 in
theorem xm_crem (P : xw_T) (σ τ : xf_T) (i : Int32) (ho : xm_okP (xw_n P) (xw_w P) τ) (hi : vp_in i 32) : xf_F (xw_l P) xny_MO_remove xnc_MO_remove 3 none 2 40 (xw_W P) (xw_D P) (xw_ty P) [.ref (xw_a P 100), .int i] (σ, τ) none (σ, xm_rem (xw_w P) τ i) := by
  refine xf_start (own := xnR_MO) [some (.ref (xw_a P 100)), some (.int i), none] rfl (by decide) (Nat.le_of_ble_eq_true rfl) rfl (xf_cat rfl) ?_
  intro X hX hE
  have hw := ho.2
  have e8 : (8 : Int32) * nI (xw_w P) = nI (8 * (xw_w P)) := pk_mul 8 _
  have K : xf_V X 47 [some (.ref (xw_a P 100)), some (.int i), some (.int (nI (8 * (xw_w P))))] [] (σ, xs_sA τ 1 (xm_rmf (8 * (xw_w P)) (τ.2 1) i)) := by
    refine xf_aload_n hX 48 rfl 0 xnd_MO_remove_47 rfl rfl ?_
    refine xg_MO_taken hX 51 rfl xk_MO_13 xnd_MO_remove_48 ?_
    refine xf_iload_n hX 52 rfl 1 xnd_MO_remove_51 rfl rfl ?_
    refine xf_iconst hX 53 rfl (0) xnd_MO_remove_52 (by decide) ?_
    refine xaM_bastore hX 54 rfl rfl hi rfl xnd_MO_remove_53 ?_
    refine xf_aload_n hX 55 rfl 0 xnd_MO_remove_54 rfl rfl ?_
    refine xg_MO_versions hX 58 rfl xk_MO_32 xnd_MO_remove_55 ?_
    refine xf_aload_n hX 59 rfl 0 xnd_MO_remove_58 rfl rfl ?_
    refine xg_MO_keys hX 62 rfl xk_MO_17 xnd_MO_remove_59 ?_
    refine xf_iload_n hX 63 rfl 1 xnd_MO_remove_62 rfl rfl ?_
    refine xaM_iaload hX 64 rfl rfl hi xnd_MO_remove_63 ?_
    refine xf_S1i hX 67 rfl (xm_cstr P _ _ _) xq_MO_stripe xk_MO_84 rfl rfl xnd_MO_remove_64 ?_
    refine xf_dup2 hX 68 rfl xnd_MO_remove_67 rfl rfl ?_
    refine xaM_iaload hX 69 rfl rfl (xs_str_in _) xnd_MO_remove_68 ?_
    refine xf_iconst hX 70 rfl (2) xnd_MO_remove_69 (by decide) ?_
    refine xf_iadd hX 71 rfl xnd_MO_remove_70 ?_
    refine xaM_iastore hX 72 rfl rfl (xs_str_in _) xnd_MO_remove_71 ?_
    refine xf_vret hX hE xnd_MO_remove_72 ?_
    exact ⟨rfl, rfl⟩
  have loop : ∀ r p, r + p = 8 * (xw_w P) → xf_V X 2 [some (.ref (xw_a P 100)), some (.int i), some (.int (nI p))] [] (σ, xs_sA τ 1 (xm_rmf p (τ.2 1) i)) := by
    intro r
    induction r with
    | zero =>
      intro p hp
      refine xf_iload_n hX 3 rfl 2 xnd_MO_remove_2 rfl rfl ?_
      refine xf_bipush hX 5 rfl (8) xnd_MO_remove_3 (by decide) ?_
      refine xf_aload_n hX 6 rfl 0 xnd_MO_remove_5 rfl rfl ?_
      refine xg_MO_ways hX 9 rfl xk_MO_69 xnd_MO_remove_6 ?_
      refine xf_imul hX 10 rfl xnd_MO_remove_9 ?_
      rw [e8]
      refine xf_icmp_ge hX 13 rfl 47 xnd_MO_remove_10 (by decide) (fun _ => ?_) (fun h10 => absurd (nI_le (by omega) (by omega)) h10)
      have hN : p = 8 * (xw_w P) := by omega
      subst hN
      exact K
    | succ r ih =>
      intro p hp
      refine xf_iload_n hX 3 rfl 2 xnd_MO_remove_2 rfl rfl ?_
      refine xf_bipush hX 5 rfl (8) xnd_MO_remove_3 (by decide) ?_
      refine xf_aload_n hX 6 rfl 0 xnd_MO_remove_5 rfl rfl ?_
      refine xg_MO_ways hX 9 rfl xk_MO_69 xnd_MO_remove_6 ?_
      refine xf_imul hX 10 rfl xnd_MO_remove_9 ?_
      rw [e8]
      refine xf_icmp_ge hX 13 rfl 47 xnd_MO_remove_10 (by decide) (fun h10 => absurd h10 (nI_ge (by omega) (by omega))) (fun _ => ?_)
      refine xf_aload_n hX 14 rfl 0 xnd_MO_remove_13 rfl rfl ?_
      refine xg_MO_held hX 17 rfl xk_MO_7 xnd_MO_remove_14 ?_
      refine xf_iload_n hX 18 rfl 2 xnd_MO_remove_17 rfl rfl ?_
      refine xf_aload_n hX 19 rfl 0 xnd_MO_remove_18 rfl rfl ?_
      refine xg_MO_held hX 22 rfl xk_MO_7 xnd_MO_remove_19 ?_
      refine xf_iload_n hX 23 rfl 2 xnd_MO_remove_22 rfl rfl ?_
      refine xaM_iaload hX 24 rfl rfl (show vp_in _ 32 from vp_in_nI (by omega) (by omega)) xnd_MO_remove_23 ?_
      rw [nI_clamp (by omega)]
      change xf_V X 24 _ (.int (xm_rmf p (τ.2 1) i p) :: _) _
      rw [xm_rmf_at]
      refine xf_iload_n hX 25 rfl 1 xnd_MO_remove_24 rfl rfl ?_
      refine xf_iconst hX 26 rfl (1) xnd_MO_remove_25 (by decide) ?_
      refine xf_iadd hX 27 rfl xnd_MO_remove_26 ?_
      refine xf_icmp_ne hX 30 rfl 34 xnd_MO_remove_27 (by decide) (fun h27 => ?_) (fun h27 => ?_)
      · refine xf_aload_n hX 35 rfl 0 xnd_MO_remove_34 rfl rfl ?_
        refine xg_MO_held hX 38 rfl xk_MO_7 xnd_MO_remove_35 ?_
        refine xf_iload_n hX 39 rfl 2 xnd_MO_remove_38 rfl rfl ?_
        refine xaM_iaload hX 40 rfl rfl (show vp_in _ 32 from vp_in_nI (by omega) (by omega)) xnd_MO_remove_39 ?_
        rw [nI_clamp (by omega)]
        change xf_V X 40 _ (.int (xm_rmf p (τ.2 1) i p) :: _) _
        rw [xm_rmf_at]
        refine xaM_iastore hX 41 rfl rfl (show vp_in _ 32 from vp_in_nI (by omega) (by omega)) xnd_MO_remove_40 ?_
        rw [nI_clamp (by omega), xs_A_sA]
        refine xf_iinc hX 44 rfl (nI (p + 1)) xnd_MO_remove_41 rfl (by rw [nI_succ]; rfl) (by decide) ?_
        dsimp only [List.set]
        refine xf_goto hX 2 xnd_MO_remove_44 (by decide) ?_
        have V := ih (p + 1) (by omega)
        rw [← xm_rmf_s] at V
        simp only [h27, if_true, if_false] at V
        exact V
      · refine xf_iconst hX 31 rfl (0) xnd_MO_remove_30 (by decide) ?_
        refine xf_goto hX 40 xnd_MO_remove_31 (by decide) ?_
        refine xaM_iastore hX 41 rfl rfl (show vp_in _ 32 from vp_in_nI (by omega) (by omega)) xnd_MO_remove_40 ?_
        rw [nI_clamp (by omega), xs_A_sA]
        refine xf_iinc hX 44 rfl (nI (p + 1)) xnd_MO_remove_41 rfl (by rw [nI_succ]; rfl) (by decide) ?_
        dsimp only [List.set]
        refine xf_goto hX 2 xnd_MO_remove_44 (by decide) ?_
        have V := ih (p + 1) (by omega)
        rw [← xm_rmf_s] at V
        simp only [eq_true h27, if_true, if_false] at V
        exact V
  refine xf_iconst hX 1 rfl (0) xnd_MO_remove_0 (by decide) ?_
  refine xf_istore_n hX 2 rfl 2 xnd_MO_remove_1 rfl (by decide) ?_
  dsimp only [List.set]
  have V := loop (8 * (xw_w P)) 0 (by omega)
  rw [xm_rmf_0, xs_sA_id] at V
  exact V

set_option maxRecDepth 100000 in
set_option maxHeartbeats 4000000 in
theorem xm_cmny (P : xw_T) (σ τ : xf_T) (hn : 1 ≤ (xw_n P) ∧ (xw_n P) ≤ 32) : xf_F (xw_l P) xny_MO_many xnc_MO_many 3 (some .int) 0 0 (xw_W P) (xw_D P) (xw_ty P) [.ref (xw_a P 100)] (σ, τ) (some (.int (xm_mny (τ.2 2) (xw_n P)))) (σ, τ) := by
  refine xf_start (own := xnR_MO) [some (.ref (xw_a P 100)), none, none] rfl (by decide) (Nat.le_of_ble_eq_true rfl) rfl (xf_cat rfl) ?_
  intro X hX hE
  have loop : ∀ r k, r + k = (xw_n P) → xf_V X 4 [some (.ref (xw_a P 100)), some (.int (xm_mny (τ.2 2) k)), some (.int (nI k))] [] (σ, τ) := by
    intro r
    induction r with
    | zero =>
      intro k hk
      refine xf_iload_n hX 5 rfl 2 xnd_MO_many_4 rfl rfl ?_
      refine xf_aload_n hX 6 rfl 0 xnd_MO_many_5 rfl rfl ?_
      refine xg_MO_items hX 9 rfl xk_MO_66 xnd_MO_many_6 ?_
      refine xf_icmp_ge hX 12 rfl 35 xnd_MO_many_9 (by decide) (fun _ => ?_) (fun h9 => absurd (nI_le (by omega) (by omega)) h9)
      refine xf_iload_n hX 36 rfl 1 xnd_MO_many_35 rfl rfl ?_
      refine xf_iret hX hE xnd_MO_many_36 ?_
      have hN : k = (xw_n P) := by omega
      subst hN
      exact ⟨rfl, rfl⟩
    | succ r ih =>
      intro k hk
      refine xf_iload_n hX 5 rfl 2 xnd_MO_many_4 rfl rfl ?_
      refine xf_aload_n hX 6 rfl 0 xnd_MO_many_5 rfl rfl ?_
      refine xg_MO_items hX 9 rfl xk_MO_66 xnd_MO_many_6 ?_
      refine xf_icmp_ge hX 12 rfl 35 xnd_MO_many_9 (by decide) (fun h9 => absurd h9 (nI_ge (by omega) (by omega))) (fun _ => ?_)
      refine xf_iload_n hX 13 rfl 1 xnd_MO_many_12 rfl rfl ?_
      refine xf_aload_n hX 14 rfl 0 xnd_MO_many_13 rfl rfl ?_
      refine xg_MO_taken hX 17 rfl xk_MO_13 xnd_MO_many_14 ?_
      refine xf_iload_n hX 18 rfl 2 xnd_MO_many_17 rfl rfl ?_
      refine xaM_baload hX 19 rfl rfl (show vp_in _ 32 from vp_in_nI (by omega) (by omega)) xnd_MO_many_18 ?_
      rw [nI_clamp (by omega)]
      refine xf_if_eq hX 22 rfl 26 xnd_MO_many_19 (by decide) (fun h19 => ?_) (fun h19 => ?_)
      · refine xf_iconst hX 27 rfl (0) xnd_MO_many_26 (by decide) ?_
        refine xf_iadd hX 28 rfl xnd_MO_many_27 ?_
        refine xf_istore_n hX 29 rfl 1 xnd_MO_many_28 rfl (by decide) ?_
        dsimp only [List.set]
        refine xf_iinc hX 32 rfl (nI (k + 1)) xnd_MO_many_29 rfl (by rw [nI_succ]; rfl) (by decide) ?_
        dsimp only [List.set]
        refine xf_goto hX 4 xnd_MO_many_32 (by decide) ?_
        have V := ih (k + 1) (by omega)
        rw [xm_mny] at V
        simp only [eq_true h19, if_true, if_false] at V
        exact V
      · refine xf_iconst hX 23 rfl (1) xnd_MO_many_22 (by decide) ?_
        refine xf_goto hX 27 xnd_MO_many_23 (by decide) ?_
        refine xf_iadd hX 28 rfl xnd_MO_many_27 ?_
        refine xf_istore_n hX 29 rfl 1 xnd_MO_many_28 rfl (by decide) ?_
        dsimp only [List.set]
        refine xf_iinc hX 32 rfl (nI (k + 1)) xnd_MO_many_29 rfl (by rw [nI_succ]; rfl) (by decide) ?_
        dsimp only [List.set]
        refine xf_goto hX 4 xnd_MO_many_32 (by decide) ?_
        have V := ih (k + 1) (by omega)
        rw [xm_mny] at V
        simp only [h19, if_true, if_false] at V
        exact V
  refine xf_iconst hX 1 rfl (0) xnd_MO_many_0 (by decide) ?_
  refine xf_istore_n hX 2 rfl 1 xnd_MO_many_1 rfl (by decide) ?_
  dsimp only [List.set]
  refine xf_iconst hX 3 rfl (0) xnd_MO_many_2 (by decide) ?_
  refine xf_istore_n hX 4 rfl 2 xnd_MO_many_3 rfl (by decide) ?_
  dsimp only [List.set]
  exact loop (xw_n P) 0 (by omega)

set_option maxRecDepth 100000 in
set_option maxHeartbeats 4000000 in
theorem xm_cstamp (P : xw_T) (σ τ : xf_T) (i : Int32) (hi : vp_in i 32) : xf_F (xw_l P) xny_MO_stamp xnc_MO_stamp 2 none 0 0 (xw_W P) (xw_D P) (xw_ty P) [.ref (xw_a P 100), .int i] (σ, τ) none (σ, xm_stamp τ i) := by
  refine xf_start (own := xnR_MO) [some (.ref (xw_a P 100)), some (.int i)] rfl (by decide) (Nat.le_of_ble_eq_true rfl) rfl (xf_cat rfl) ?_
  intro X hX hE
  refine xf_aload_n hX 1 rfl 0 xnd_MO_stamp_0 rfl rfl ?_
  refine xf_dup hX 2 rfl xnd_MO_stamp_1 rfl ?_
  refine xg_MO_tokens hX 5 rfl xk_MO_145 xnd_MO_stamp_2 ?_
  refine xf_iconst hX 6 rfl (1) xnd_MO_stamp_5 (by decide) ?_
  refine xf_iadd hX 7 rfl xnd_MO_stamp_6 ?_
  refine xp_MO_tokens hX 10 rfl xk_MO_145 xnd_MO_stamp_7 ?_
  refine xf_aload_n hX 11 rfl 0 xnd_MO_stamp_10 rfl rfl ?_
  refine xg_MO_marks hX 14 rfl xk_MO_23 xnd_MO_stamp_11 ?_
  refine xf_iload_n hX 15 rfl 1 xnd_MO_stamp_14 rfl rfl ?_
  refine xf_aload_n hX 16 rfl 0 xnd_MO_stamp_15 rfl rfl ?_
  refine xg_MO_tokens hX 19 rfl xk_MO_145 xnd_MO_stamp_16 ?_
  refine xaM_iastore hX 20 rfl rfl hi xnd_MO_stamp_19 ?_
  refine xf_aload_n hX 21 rfl 0 xnd_MO_stamp_20 rfl rfl ?_
  refine xg_MO_ends hX 24 rfl xk_MO_26 xnd_MO_stamp_21 ?_
  refine xf_iload_n hX 25 rfl 1 xnd_MO_stamp_24 rfl rfl ?_
  refine xf_aload_n hX 26 rfl 0 xnd_MO_stamp_25 rfl rfl ?_
  refine xg_MO_life hX 29 rfl xk_MO_111 xnd_MO_stamp_26 ?_
  change xf_V X 29 _ (.int (τ.1 8) :: _) _
  refine xf_if_ne hX 32 rfl 36 xnd_MO_stamp_29 (by decide) (fun h29 => ?_) (fun h29 => ?_)
  · refine xf_aload_n hX 37 rfl 0 xnd_MO_stamp_36 rfl rfl ?_
    refine xg_MO_time hX 40 rfl xk_MO_96 xnd_MO_stamp_37 ?_
    refine xf_aload_n hX 41 rfl 0 xnd_MO_stamp_40 rfl rfl ?_
    refine xg_MO_life hX 44 rfl xk_MO_111 xnd_MO_stamp_41 ?_
    refine xf_iadd hX 45 rfl xnd_MO_stamp_44 ?_
    refine xaM_iastore hX 46 rfl rfl hi xnd_MO_stamp_45 ?_
    refine xf_vret hX hE xnd_MO_stamp_46 ?_
    refine ⟨rfl, ?_⟩
    simp only [xm_stamp, h29, if_true, if_false]
    rfl
  · refine xf_iconst hX 33 rfl (0) xnd_MO_stamp_32 (by decide) ?_
    refine xf_goto hX 45 xnd_MO_stamp_33 (by decide) ?_
    refine xaM_iastore hX 46 rfl rfl hi xnd_MO_stamp_45 ?_
    refine xf_vret hX hE xnd_MO_stamp_46 ?_
    refine ⟨rfl, ?_⟩
    simp only [xm_stamp, eq_true h29, if_true, if_false]
    rfl
end
