section
-- ===== PART A: goes FIRST, ahead of the names: the tables' words, and 'selects' of the private methods out of them =====
/-- a private method of a class that the tables say can be made, by its rows of tables_1 -/
def lw_okq (q : MethodName × Nat) : Prop := (q.1.cls ≠ "java/lang/invoke/MethodHandle" ∧ q.1.cls ≠ "java/lang/invoke/VarHandle") ∧ Cond.instantiable q.1.cls q.2 ∈ tables_1 ∧ Cond.privateMethod q.1 ∈ tables_1 ∧ Cond.instanceMethod q.1 ∈ tables_1
theorem lw_p0 : lw_okq (⟨"SteppedCache$Writer", "lookUpKey", "()V"⟩, 13) := ⟨⟨by decide +kernel, by decide +kernel⟩, List.mem_of_getElem? (i := 133) (by decide +kernel), List.mem_of_getElem? (i := 288) (by decide +kernel), List.mem_of_getElem? (i := 289) (by decide +kernel)⟩
theorem lw_p1 : lw_okq (⟨"SteppedCache$Writer", "chooseWhenFound", "(I)V"⟩, 13) := ⟨⟨by decide +kernel, by decide +kernel⟩, List.mem_of_getElem? (i := 133) (by decide +kernel), List.mem_of_getElem? (i := 337) (by decide +kernel), List.mem_of_getElem? (i := 338) (by decide +kernel)⟩
theorem lw_p2 : lw_okq (⟨"SteppedCache$Writer", "chooseWhenNotFound", "()V"⟩, 13) := ⟨⟨by decide +kernel, by decide +kernel⟩, List.mem_of_getElem? (i := 133) (by decide +kernel), List.mem_of_getElem? (i := 341) (by decide +kernel), List.mem_of_getElem? (i := 342) (by decide +kernel)⟩
theorem lw_p3 : lw_okq (⟨"SteppedCache$Writer", "changeValue", "()V"⟩, 13) := ⟨⟨by decide +kernel, by decide +kernel⟩, List.mem_of_getElem? (i := 133) (by decide +kernel), List.mem_of_getElem? (i := 349) (by decide +kernel), List.mem_of_getElem? (i := 350) (by decide +kernel)⟩
theorem lw_p4 : lw_okq (⟨"SteppedCache$Writer", "changeToken", "()V"⟩, 13) := ⟨⟨by decide +kernel, by decide +kernel⟩, List.mem_of_getElem? (i := 133) (by decide +kernel), List.mem_of_getElem? (i := 354) (by decide +kernel), List.mem_of_getElem? (i := 355) (by decide +kernel)⟩
theorem lw_p5 : lw_okq (⟨"SteppedCache$Writer", "evict", "()V"⟩, 13) := ⟨⟨by decide +kernel, by decide +kernel⟩, List.mem_of_getElem? (i := 133) (by decide +kernel), List.mem_of_getElem? (i := 362) (by decide +kernel), List.mem_of_getElem? (i := 363) (by decide +kernel)⟩
theorem lw_p6 : lw_okq (⟨"SteppedCache$Writer", "turnHand", "()V"⟩, 13) := ⟨⟨by decide +kernel, by decide +kernel⟩, List.mem_of_getElem? (i := 133) (by decide +kernel), List.mem_of_getElem? (i := 366) (by decide +kernel), List.mem_of_getElem? (i := 367) (by decide +kernel)⟩
theorem lw_p7 : lw_okq (⟨"SteppedCache$Writer", "seekPath", "()V"⟩, 13) := ⟨⟨by decide +kernel, by decide +kernel⟩, List.mem_of_getElem? (i := 133) (by decide +kernel), List.mem_of_getElem? (i := 370) (by decide +kernel), List.mem_of_getElem? (i := 371) (by decide +kernel)⟩
theorem lw_p8 : lw_okq (⟨"SteppedCache$Path", "enter", "(III)V"⟩, 7) := ⟨⟨by decide +kernel, by decide +kernel⟩, List.mem_of_getElem? (i := 139) (by decide +kernel), List.mem_of_getElem? (i := 380) (by decide +kernel), List.mem_of_getElem? (i := 381) (by decide +kernel)⟩
theorem lw_p9 : lw_okq (⟨"SteppedCache$Path", "keep", "(I)V"⟩, 7) := ⟨⟨by decide +kernel, by decide +kernel⟩, List.mem_of_getElem? (i := 139) (by decide +kernel), List.mem_of_getElem? (i := 385) (by decide +kernel), List.mem_of_getElem? (i := 386) (by decide +kernel)⟩
theorem lw_p10 : lw_okq (⟨"SteppedCache$Writer", "chooseMove", "()V"⟩, 13) := ⟨⟨by decide +kernel, by decide +kernel⟩, List.mem_of_getElem? (i := 133) (by decide +kernel), List.mem_of_getElem? (i := 390) (by decide +kernel), List.mem_of_getElem? (i := 391) (by decide +kernel)⟩
theorem lw_p11 : lw_okq (⟨"SteppedCache$Writer", "moveOn", "()V"⟩, 13) := ⟨⟨by decide +kernel, by decide +kernel⟩, List.mem_of_getElem? (i := 133) (by decide +kernel), List.mem_of_getElem? (i := 394) (by decide +kernel), List.mem_of_getElem? (i := 395) (by decide +kernel)⟩
theorem lw_p12 : lw_okq (⟨"SteppedCache$Writer", "moveOff", "()V"⟩, 13) := ⟨⟨by decide +kernel, by decide +kernel⟩, List.mem_of_getElem? (i := 133) (by decide +kernel), List.mem_of_getElem? (i := 398) (by decide +kernel), List.mem_of_getElem? (i := 399) (by decide +kernel)⟩
theorem lw_p13 : lw_okq (⟨"SteppedCache$Writer", "insertKey", "()V"⟩, 13) := ⟨⟨by decide +kernel, by decide +kernel⟩, List.mem_of_getElem? (i := 133) (by decide +kernel), List.mem_of_getElem? (i := 402) (by decide +kernel), List.mem_of_getElem? (i := 403) (by decide +kernel)⟩
theorem lw_p14 : lw_okq (⟨"SteppedCache$Reader", "keepVersion", "()V"⟩, 11) := ⟨⟨by decide +kernel, by decide +kernel⟩, List.mem_of_getElem? (i := 212) (by decide +kernel), List.mem_of_getElem? (i := 443) (by decide +kernel), List.mem_of_getElem? (i := 444) (by decide +kernel)⟩
theorem lw_p15 : lw_okq (⟨"SteppedCache$Reader", "lookInto", "(II)V"⟩, 11) := ⟨⟨by decide +kernel, by decide +kernel⟩, List.mem_of_getElem? (i := 212) (by decide +kernel), List.mem_of_getElem? (i := 452) (by decide +kernel), List.mem_of_getElem? (i := 453) (by decide +kernel)⟩
def lw_privs_1 : List (MethodName × Nat) := [(⟨"SteppedCache$Writer", "lookUpKey", "()V"⟩, 13), (⟨"SteppedCache$Writer", "chooseWhenFound", "(I)V"⟩, 13), (⟨"SteppedCache$Writer", "chooseWhenNotFound", "()V"⟩, 13), (⟨"SteppedCache$Writer", "changeValue", "()V"⟩, 13), (⟨"SteppedCache$Writer", "changeToken", "()V"⟩, 13), (⟨"SteppedCache$Writer", "evict", "()V"⟩, 13), (⟨"SteppedCache$Writer", "turnHand", "()V"⟩, 13), (⟨"SteppedCache$Writer", "seekPath", "()V"⟩, 13), (⟨"SteppedCache$Path", "enter", "(III)V"⟩, 7), (⟨"SteppedCache$Path", "keep", "(I)V"⟩, 7), (⟨"SteppedCache$Writer", "chooseMove", "()V"⟩, 13), (⟨"SteppedCache$Writer", "moveOn", "()V"⟩, 13), (⟨"SteppedCache$Writer", "moveOff", "()V"⟩, 13), (⟨"SteppedCache$Writer", "insertKey", "()V"⟩, 13), (⟨"SteppedCache$Reader", "keepVersion", "()V"⟩, 11), (⟨"SteppedCache$Reader", "lookInto", "(II)V"⟩, 11)]
theorem lw_r1 : ∀ q ∈ lw_privs_1, lw_okq q := List.forall_mem_cons.mpr ⟨lw_p0, List.forall_mem_cons.mpr ⟨lw_p1, List.forall_mem_cons.mpr ⟨lw_p2, List.forall_mem_cons.mpr ⟨lw_p3, List.forall_mem_cons.mpr ⟨lw_p4, List.forall_mem_cons.mpr ⟨lw_p5, List.forall_mem_cons.mpr ⟨lw_p6, List.forall_mem_cons.mpr ⟨lw_p7, List.forall_mem_cons.mpr ⟨lw_p8, List.forall_mem_cons.mpr ⟨lw_p9, List.forall_mem_cons.mpr ⟨lw_p10, List.forall_mem_cons.mpr ⟨lw_p11, List.forall_mem_cons.mpr ⟨lw_p12, List.forall_mem_cons.mpr ⟨lw_p13, List.forall_mem_cons.mpr ⟨lw_p14, List.forall_mem_cons.mpr ⟨lw_p15, fun _ h => absurd h List.not_mem_nil⟩⟩⟩⟩⟩⟩⟩⟩⟩⟩⟩⟩⟩⟩⟩⟩
theorem lw_p16 : lw_okq (⟨"SteppedCache$Reader", "copyItem", "()V"⟩, 11) := ⟨⟨by decide +kernel, by decide +kernel⟩, List.mem_of_getElem? (i := 212) (by decide +kernel), List.mem_of_getElem? (i := 458) (by decide +kernel), List.mem_of_getElem? (i := 459) (by decide +kernel)⟩
theorem lw_p17 : lw_okq (⟨"SteppedCache$Reader", "checkVersion", "()V"⟩, 11) := ⟨⟨by decide +kernel, by decide +kernel⟩, List.mem_of_getElem? (i := 212) (by decide +kernel), List.mem_of_getElem? (i := 462) (by decide +kernel), List.mem_of_getElem? (i := 463) (by decide +kernel)⟩
theorem lw_p18 : lw_okq (⟨"SteppedCache$Reader", "end", "(Z)V"⟩, 11) := ⟨⟨by decide +kernel, by decide +kernel⟩, List.mem_of_getElem? (i := 212) (by decide +kernel), List.mem_of_getElem? (i := 467) (by decide +kernel), List.mem_of_getElem? (i := 468) (by decide +kernel)⟩
theorem lw_p19 : lw_okq (⟨"SteppedCache$Reader", "readLocked", "()V"⟩, 11) := ⟨⟨by decide +kernel, by decide +kernel⟩, List.mem_of_getElem? (i := 212) (by decide +kernel), List.mem_of_getElem? (i := 471) (by decide +kernel), List.mem_of_getElem? (i := 472) (by decide +kernel)⟩
theorem lw_p20 : lw_okq (⟨"SteppedCache", "isHit", "(I)Z"⟩, 4) := ⟨⟨by decide +kernel, by decide +kernel⟩, List.mem_of_getElem? (i := 10) (by decide +kernel), List.mem_of_getElem? (i := 485) (by decide +kernel), List.mem_of_getElem? (i := 486) (by decide +kernel)⟩
theorem lw_p21 : lw_okq (⟨"SteppedCache", "isUsedItem", "(I)Z"⟩, 4) := ⟨⟨by decide +kernel, by decide +kernel⟩, List.mem_of_getElem? (i := 10) (by decide +kernel), List.mem_of_getElem? (i := 513) (by decide +kernel), List.mem_of_getElem? (i := 514) (by decide +kernel)⟩
theorem lw_p22 : lw_okq (⟨"SteppedCacheModel", "search", "(II)I"⟩, 38) := ⟨⟨by decide +kernel, by decide +kernel⟩, List.mem_of_getElem? (i := 538) (by decide +kernel), List.mem_of_getElem? (i := 680) (by decide +kernel), List.mem_of_getElem? (i := 681) (by decide +kernel)⟩
theorem lw_p23 : lw_okq (⟨"SteppedCacheModel", "one", "()V"⟩, 38) := ⟨⟨by decide +kernel, by decide +kernel⟩, List.mem_of_getElem? (i := 538) (by decide +kernel), List.mem_of_getElem? (i := 692) (by decide +kernel), List.mem_of_getElem? (i := 693) (by decide +kernel)⟩
theorem lw_p24 : lw_okq (⟨"SteppedCacheModel", "begin", "()V"⟩, 38) := ⟨⟨by decide +kernel, by decide +kernel⟩, List.mem_of_getElem? (i := 538) (by decide +kernel), List.mem_of_getElem? (i := 696) (by decide +kernel), List.mem_of_getElem? (i := 697) (by decide +kernel)⟩
theorem lw_p25 : lw_okq (⟨"SteppedCacheModel", "lookBoth", "(I)I"⟩, 38) := ⟨⟨by decide +kernel, by decide +kernel⟩, List.mem_of_getElem? (i := 538) (by decide +kernel), List.mem_of_getElem? (i := 700) (by decide +kernel), List.mem_of_getElem? (i := 701) (by decide +kernel)⟩
theorem lw_p26 : lw_okq (⟨"SteppedCacheModel", "look", "(II)I"⟩, 38) := ⟨⟨by decide +kernel, by decide +kernel⟩, List.mem_of_getElem? (i := 538) (by decide +kernel), List.mem_of_getElem? (i := 704) (by decide +kernel), List.mem_of_getElem? (i := 705) (by decide +kernel)⟩
theorem lw_p27 : lw_okq (⟨"SteppedCacheModel", "over", "(I)Z"⟩, 38) := ⟨⟨by decide +kernel, by decide +kernel⟩, List.mem_of_getElem? (i := 538) (by decide +kernel), List.mem_of_getElem? (i := 708) (by decide +kernel), List.mem_of_getElem? (i := 709) (by decide +kernel)⟩
theorem lw_p28 : lw_okq (⟨"SteppedCacheModel", "remove", "(I)V"⟩, 38) := ⟨⟨by decide +kernel, by decide +kernel⟩, List.mem_of_getElem? (i := 538) (by decide +kernel), List.mem_of_getElem? (i := 712) (by decide +kernel), List.mem_of_getElem? (i := 713) (by decide +kernel)⟩
theorem lw_p29 : lw_okq (⟨"SteppedCacheModel", "finish", "(I)V"⟩, 38) := ⟨⟨by decide +kernel, by decide +kernel⟩, List.mem_of_getElem? (i := 538) (by decide +kernel), List.mem_of_getElem? (i := 716) (by decide +kernel), List.mem_of_getElem? (i := 717) (by decide +kernel)⟩
theorem lw_p30 : lw_okq (⟨"SteppedCacheModel", "many", "()I"⟩, 38) := ⟨⟨by decide +kernel, by decide +kernel⟩, List.mem_of_getElem? (i := 538) (by decide +kernel), List.mem_of_getElem? (i := 720) (by decide +kernel), List.mem_of_getElem? (i := 721) (by decide +kernel)⟩
theorem lw_p31 : lw_okq (⟨"SteppedCacheModel", "stamp", "(I)V"⟩, 38) := ⟨⟨by decide +kernel, by decide +kernel⟩, List.mem_of_getElem? (i := 538) (by decide +kernel), List.mem_of_getElem? (i := 724) (by decide +kernel), List.mem_of_getElem? (i := 725) (by decide +kernel)⟩
def lw_privs_2 : List (MethodName × Nat) := [(⟨"SteppedCache$Reader", "copyItem", "()V"⟩, 11), (⟨"SteppedCache$Reader", "checkVersion", "()V"⟩, 11), (⟨"SteppedCache$Reader", "end", "(Z)V"⟩, 11), (⟨"SteppedCache$Reader", "readLocked", "()V"⟩, 11), (⟨"SteppedCache", "isHit", "(I)Z"⟩, 4), (⟨"SteppedCache", "isUsedItem", "(I)Z"⟩, 4), (⟨"SteppedCacheModel", "search", "(II)I"⟩, 38), (⟨"SteppedCacheModel", "one", "()V"⟩, 38), (⟨"SteppedCacheModel", "begin", "()V"⟩, 38), (⟨"SteppedCacheModel", "lookBoth", "(I)I"⟩, 38), (⟨"SteppedCacheModel", "look", "(II)I"⟩, 38), (⟨"SteppedCacheModel", "over", "(I)Z"⟩, 38), (⟨"SteppedCacheModel", "remove", "(I)V"⟩, 38), (⟨"SteppedCacheModel", "finish", "(I)V"⟩, 38), (⟨"SteppedCacheModel", "many", "()I"⟩, 38), (⟨"SteppedCacheModel", "stamp", "(I)V"⟩, 38)]
theorem lw_r2 : ∀ q ∈ lw_privs_2, lw_okq q := List.forall_mem_cons.mpr ⟨lw_p16, List.forall_mem_cons.mpr ⟨lw_p17, List.forall_mem_cons.mpr ⟨lw_p18, List.forall_mem_cons.mpr ⟨lw_p19, List.forall_mem_cons.mpr ⟨lw_p20, List.forall_mem_cons.mpr ⟨lw_p21, List.forall_mem_cons.mpr ⟨lw_p22, List.forall_mem_cons.mpr ⟨lw_p23, List.forall_mem_cons.mpr ⟨lw_p24, List.forall_mem_cons.mpr ⟨lw_p25, List.forall_mem_cons.mpr ⟨lw_p26, List.forall_mem_cons.mpr ⟨lw_p27, List.forall_mem_cons.mpr ⟨lw_p28, List.forall_mem_cons.mpr ⟨lw_p29, List.forall_mem_cons.mpr ⟨lw_p30, List.forall_mem_cons.mpr ⟨lw_p31, fun _ h => absurd h List.not_mem_nil⟩⟩⟩⟩⟩⟩⟩⟩⟩⟩⟩⟩⟩⟩⟩⟩
theorem lw_p32 : lw_okq (⟨"SteppedCacheModel", "evict", "()V"⟩, 38) := ⟨⟨by decide +kernel, by decide +kernel⟩, List.mem_of_getElem? (i := 538) (by decide +kernel), List.mem_of_getElem? (i := 728) (by decide +kernel), List.mem_of_getElem? (i := 729) (by decide +kernel)⟩
theorem lw_p33 : lw_okq (⟨"SteppedCacheModel", "seek", "()V"⟩, 38) := ⟨⟨by decide +kernel, by decide +kernel⟩, List.mem_of_getElem? (i := 538) (by decide +kernel), List.mem_of_getElem? (i := 732) (by decide +kernel), List.mem_of_getElem? (i := 733) (by decide +kernel)⟩
theorem lw_p34 : lw_okq (⟨"SteppedCacheModel", "leads", "(II)Z"⟩, 38) := ⟨⟨by decide +kernel, by decide +kernel⟩, List.mem_of_getElem? (i := 538) (by decide +kernel), List.mem_of_getElem? (i := 736) (by decide +kernel), List.mem_of_getElem? (i := 737) (by decide +kernel)⟩
theorem lw_p35 : lw_okq (⟨"SteppedCacheModel", "move", "()V"⟩, 38) := ⟨⟨by decide +kernel, by decide +kernel⟩, List.mem_of_getElem? (i := 538) (by decide +kernel), List.mem_of_getElem? (i := 740) (by decide +kernel), List.mem_of_getElem? (i := 741) (by decide +kernel)⟩
theorem lw_p36 : lw_okq (⟨"SteppedCacheModel", "enter", "()V"⟩, 38) := ⟨⟨by decide +kernel, by decide +kernel⟩, List.mem_of_getElem? (i := 538) (by decide +kernel), List.mem_of_getElem? (i := 744) (by decide +kernel), List.mem_of_getElem? (i := 745) (by decide +kernel)⟩
theorem lw_p37 : lw_okq (⟨"SteppedCacheModel", "reading", "(I)Z"⟩, 38) := ⟨⟨by decide +kernel, by decide +kernel⟩, List.mem_of_getElem? (i := 538) (by decide +kernel), List.mem_of_getElem? (i := 759) (by decide +kernel), List.mem_of_getElem? (i := 760) (by decide +kernel)⟩
theorem lw_p38 : lw_okq (⟨"SteppedCacheModel", "keep", "(II)V"⟩, 38) := ⟨⟨by decide +kernel, by decide +kernel⟩, List.mem_of_getElem? (i := 538) (by decide +kernel), List.mem_of_getElem? (i := 767) (by decide +kernel), List.mem_of_getElem? (i := 768) (by decide +kernel)⟩
theorem lw_p39 : lw_okq (⟨"SteppedCacheModel", "find", "(II)V"⟩, 38) := ⟨⟨by decide +kernel, by decide +kernel⟩, List.mem_of_getElem? (i := 538) (by decide +kernel), List.mem_of_getElem? (i := 771) (by decide +kernel), List.mem_of_getElem? (i := 772) (by decide +kernel)⟩
theorem lw_p40 : lw_okq (⟨"SteppedCacheModel", "copy", "(I)V"⟩, 38) := ⟨⟨by decide +kernel, by decide +kernel⟩, List.mem_of_getElem? (i := 538) (by decide +kernel), List.mem_of_getElem? (i := 775) (by decide +kernel), List.mem_of_getElem? (i := 776) (by decide +kernel)⟩
theorem lw_p41 : lw_okq (⟨"SteppedCacheModel", "check", "(I)V"⟩, 38) := ⟨⟨by decide +kernel, by decide +kernel⟩, List.mem_of_getElem? (i := 538) (by decide +kernel), List.mem_of_getElem? (i := 779) (by decide +kernel), List.mem_of_getElem? (i := 780) (by decide +kernel)⟩
theorem lw_p42 : lw_okq (⟨"SteppedCacheModel", "locked", "(I)V"⟩, 38) := ⟨⟨by decide +kernel, by decide +kernel⟩, List.mem_of_getElem? (i := 538) (by decide +kernel), List.mem_of_getElem? (i := 783) (by decide +kernel), List.mem_of_getElem? (i := 784) (by decide +kernel)⟩
def lw_privs_3 : List (MethodName × Nat) := [(⟨"SteppedCacheModel", "evict", "()V"⟩, 38), (⟨"SteppedCacheModel", "seek", "()V"⟩, 38), (⟨"SteppedCacheModel", "leads", "(II)Z"⟩, 38), (⟨"SteppedCacheModel", "move", "()V"⟩, 38), (⟨"SteppedCacheModel", "enter", "()V"⟩, 38), (⟨"SteppedCacheModel", "reading", "(I)Z"⟩, 38), (⟨"SteppedCacheModel", "keep", "(II)V"⟩, 38), (⟨"SteppedCacheModel", "find", "(II)V"⟩, 38), (⟨"SteppedCacheModel", "copy", "(I)V"⟩, 38), (⟨"SteppedCacheModel", "check", "(I)V"⟩, 38), (⟨"SteppedCacheModel", "locked", "(I)V"⟩, 38)]
theorem lw_r3 : ∀ q ∈ lw_privs_3, lw_okq q := List.forall_mem_cons.mpr ⟨lw_p32, List.forall_mem_cons.mpr ⟨lw_p33, List.forall_mem_cons.mpr ⟨lw_p34, List.forall_mem_cons.mpr ⟨lw_p35, List.forall_mem_cons.mpr ⟨lw_p36, List.forall_mem_cons.mpr ⟨lw_p37, List.forall_mem_cons.mpr ⟨lw_p38, List.forall_mem_cons.mpr ⟨lw_p39, List.forall_mem_cons.mpr ⟨lw_p40, List.forall_mem_cons.mpr ⟨lw_p41, List.forall_mem_cons.mpr ⟨lw_p42, fun _ h => absurd h List.not_mem_nil⟩⟩⟩⟩⟩⟩⟩⟩⟩⟩⟩
def lw_privs : List (MethodName × Nat) := lw_privs_1 ++ (lw_privs_2 ++ (lw_privs_3))
def lw_tbl : List Cond := k2_sels lw_privs ++ tables_1
theorem lw_privs_ok : ∀ q ∈ lw_privs, lw_okq q := by
  show ∀ q ∈ lw_privs_1 ++ (lw_privs_2 ++ (lw_privs_3)), lw_okq q
  exact List.forall_mem_append.mpr ⟨lw_r1, List.forall_mem_append.mpr ⟨lw_r2, lw_r3⟩⟩
end
section
/-! Names: of classes, fields in the order of their slots, methods and their code. Written by wip/gen/mknames.py out of claim/Statement.lean. -/
def xnR_SC : String := "SteppedCache"
def xnR_TA : String := "SteppedCache$Tally"
def xnR_ST : String := "SteppedCache$Store"
def xnR_WR : String := "SteppedCache$Writer"
def xnR_PA : String := "SteppedCache$Path"
def xnR_RD : String := "SteppedCache$Reader"
def xnR_MO : String := "SteppedCacheModel"
def xnR_AR : String := "java/util/Arrays"
def xnR_LW : String := "SteppedCacheLaw"
def xnT_SC : u_T := fun k => match k with
  | 0 => ("SteppedCache", "tally", "LSteppedCache$Tally;", true)
  | 1 => ("SteppedCache", "store", "LSteppedCache$Store;", true)
  | 2 => ("SteppedCache", "writer", "LSteppedCache$Writer;", true)
  | _ => ("SteppedCache", "readers", "[LSteppedCache$Reader;", true)
def xnK_SC : Nat → FieldType := fun k => match k with
  | 0 => .object "SteppedCache$Tally"
  | 1 => .object "SteppedCache$Store"
  | 2 => .object "SteppedCache$Writer"
  | _ => .array (.object "SteppedCache$Reader")
theorem xnM_SC : ∀ a, a < 4 → ∀ b, b < 4 → a ≠ b → (xnT_SC a).2.1 ≠ (xnT_SC b).2.1 := by decide +kernel
theorem xnO_SC : ∀ k, k < 4 → parseFieldDescriptor (xnT_SC k).2.2.1 = some (xnK_SC k) := by decide +kernel
def xnT_TA : u_T := fun k => match k with
  | 0 => ("SteppedCache$Tally", "evictions", "I", false)
  | 1 => ("SteppedCache$Tally", "moves", "I", false)
  | 2 => ("SteppedCache$Tally", "retries", "I", false)
  | 3 => ("SteppedCache$Tally", "waits", "I", false)
  | 4 => ("SteppedCache$Tally", "nearMisses", "I", false)
  | _ => ("SteppedCache$Tally", "expiredRemoved", "I", false)
def xnK_TA : Nat → FieldType := fun k => match k with
  | 0 => .int
  | 1 => .int
  | 2 => .int
  | 3 => .int
  | 4 => .int
  | _ => .int
theorem xnM_TA : ∀ a, a < 6 → ∀ b, b < 6 → a ≠ b → (xnT_TA a).2.1 ≠ (xnT_TA b).2.1 := by decide +kernel
theorem xnO_TA : ∀ k, k < 6 → parseFieldDescriptor (xnT_TA k).2.2.1 = some (xnK_TA k) := by decide +kernel
def xnT_ST : u_T := fun k => match k with
  | 0 => ("SteppedCache$Store", "tally", "LSteppedCache$Tally;", true)
  | 1 => ("SteppedCache$Store", "capacity", "I", true)
  | 2 => ("SteppedCache$Store", "ways", "I", true)
  | 3 => ("SteppedCache$Store", "places", "[I", true)
  | 4 => ("SteppedCache$Store", "keys", "[I", true)
  | 5 => ("SteppedCache$Store", "values", "[I", true)
  | 6 => ("SteppedCache$Store", "tokens", "[I", true)
  | 7 => ("SteppedCache$Store", "expiries", "[I", true)
  | 8 => ("SteppedCache$Store", "bits", "[Z", true)
  | 9 => ("SteppedCache$Store", "usedFlags", "[Z", true)
  | 10 => ("SteppedCache$Store", "versions", "[I", true)
  | 11 => ("SteppedCache$Store", "usedCount", "I", false)
  | 12 => ("SteppedCache$Store", "time", "I", false)
  | _ => ("SteppedCache$Store", "latestToken", "I", false)
def xnK_ST : Nat → FieldType := fun k => match k with
  | 0 => .object "SteppedCache$Tally"
  | 1 => .int
  | 2 => .int
  | 3 => .array .int
  | 4 => .array .int
  | 5 => .array .int
  | 6 => .array .int
  | 7 => .array .int
  | 8 => .array .boolean
  | 9 => .array .boolean
  | 10 => .array .int
  | 11 => .int
  | 12 => .int
  | _ => .int
theorem xnM_ST : ∀ a, a < 14 → ∀ b, b < 14 → a ≠ b → (xnT_ST a).2.1 ≠ (xnT_ST b).2.1 := by decide +kernel
theorem xnO_ST : ∀ k, k < 14 → parseFieldDescriptor (xnT_ST k).2.2.1 = some (xnK_ST k) := by decide +kernel
def xnT_WR : u_T := fun k => match k with
  | 0 => ("SteppedCache$Writer", "store", "LSteppedCache$Store;", true)
  | 1 => ("SteppedCache$Writer", "tally", "LSteppedCache$Tally;", true)
  | 2 => ("SteppedCache$Writer", "path", "LSteppedCache$Path;", true)
  | 3 => ("SteppedCache$Writer", "outcome", "I", false)
  | 4 => ("SteppedCache$Writer", "hand", "I", false)
  | 5 => ("SteppedCache$Writer", "kind", "I", false)
  | 6 => ("SteppedCache$Writer", "key", "I", false)
  | 7 => ("SteppedCache$Writer", "newValue", "I", false)
  | 8 => ("SteppedCache$Writer", "life", "I", false)
  | 9 => ("SteppedCache$Writer", "knownToken", "I", false)
  | 10 => ("SteppedCache$Writer", "next", "I", false)
  | 11 => ("SteppedCache$Writer", "changed", "I", false)
  | _ => ("SteppedCache$Writer", "moving", "I", false)
def xnK_WR : Nat → FieldType := fun k => match k with
  | 0 => .object "SteppedCache$Store"
  | 1 => .object "SteppedCache$Tally"
  | 2 => .object "SteppedCache$Path"
  | 3 => .int
  | 4 => .int
  | 5 => .int
  | 6 => .int
  | 7 => .int
  | 8 => .int
  | 9 => .int
  | 10 => .int
  | 11 => .int
  | _ => .int
theorem xnM_WR : ∀ a, a < 13 → ∀ b, b < 13 → a ≠ b → (xnT_WR a).2.1 ≠ (xnT_WR b).2.1 := by decide +kernel
theorem xnO_WR : ∀ k, k < 13 → parseFieldDescriptor (xnT_WR k).2.2.1 = some (xnK_WR k) := by decide +kernel
def xnT_PA : u_T := fun k => match k with
  | 0 => ("SteppedCache$Path", "store", "LSteppedCache$Store;", true)
  | 1 => ("SteppedCache$Path", "stops", "[I", true)
  | 2 => ("SteppedCache$Path", "length", "I", false)
  | 3 => ("SteppedCache$Path", "queue", "[I", true)
  | 4 => ("SteppedCache$Path", "before", "[I", true)
  | 5 => ("SteppedCache$Path", "depths", "[I", true)
  | _ => ("SteppedCache$Path", "queued", "I", false)
def xnK_PA : Nat → FieldType := fun k => match k with
  | 0 => .object "SteppedCache$Store"
  | 1 => .array .int
  | 2 => .int
  | 3 => .array .int
  | 4 => .array .int
  | 5 => .array .int
  | _ => .int
theorem xnM_PA : ∀ a, a < 7 → ∀ b, b < 7 → a ≠ b → (xnT_PA a).2.1 ≠ (xnT_PA b).2.1 := by decide +kernel
theorem xnO_PA : ∀ k, k < 7 → parseFieldDescriptor (xnT_PA k).2.2.1 = some (xnK_PA k) := by decide +kernel
def xnT_RD : u_T := fun k => match k with
  | 0 => ("SteppedCache$Reader", "store", "LSteppedCache$Store;", true)
  | 1 => ("SteppedCache$Reader", "writer", "LSteppedCache$Writer;", true)
  | 2 => ("SteppedCache$Reader", "tally", "LSteppedCache$Tally;", true)
  | 3 => ("SteppedCache$Reader", "state", "I", false)
  | 4 => ("SteppedCache$Reader", "copiedValue", "I", false)
  | 5 => ("SteppedCache$Reader", "copiedToken", "I", false)
  | 6 => ("SteppedCache$Reader", "key", "I", false)
  | 7 => ("SteppedCache$Reader", "retries", "I", false)
  | 8 => ("SteppedCache$Reader", "keptVersion", "I", false)
  | 9 => ("SteppedCache$Reader", "keptItem", "I", false)
  | _ => ("SteppedCache$Reader", "copiedExpiry", "I", false)
def xnK_RD : Nat → FieldType := fun k => match k with
  | 0 => .object "SteppedCache$Store"
  | 1 => .object "SteppedCache$Writer"
  | 2 => .object "SteppedCache$Tally"
  | 3 => .int
  | 4 => .int
  | 5 => .int
  | 6 => .int
  | 7 => .int
  | 8 => .int
  | 9 => .int
  | _ => .int
theorem xnM_RD : ∀ a, a < 11 → ∀ b, b < 11 → a ≠ b → (xnT_RD a).2.1 ≠ (xnT_RD b).2.1 := by decide +kernel
theorem xnO_RD : ∀ k, k < 11 → parseFieldDescriptor (xnT_RD k).2.2.1 = some (xnK_RD k) := by decide +kernel
def xnT_MO : u_T := fun k => match k with
  | 0 => ("SteppedCacheModel", "items", "I", false)
  | 1 => ("SteppedCacheModel", "ways", "I", false)
  | 2 => ("SteppedCacheModel", "time", "I", false)
  | 3 => ("SteppedCacheModel", "hand", "I", false)
  | 4 => ("SteppedCacheModel", "tokens", "I", false)
  | 5 => ("SteppedCacheModel", "held", "[I", true)
  | 6 => ("SteppedCacheModel", "taken", "[Z", true)
  | 7 => ("SteppedCacheModel", "keys", "[I", true)
  | 8 => ("SteppedCacheModel", "values", "[I", true)
  | 9 => ("SteppedCacheModel", "marks", "[I", true)
  | 10 => ("SteppedCacheModel", "ends", "[I", true)
  | 11 => ("SteppedCacheModel", "bits", "[Z", true)
  | 12 => ("SteppedCacheModel", "versions", "[I", true)
  | 13 => ("SteppedCacheModel", "next", "I", false)
  | 14 => ("SteppedCacheModel", "result", "I", false)
  | 15 => ("SteppedCacheModel", "kind", "I", false)
  | 16 => ("SteppedCacheModel", "key", "I", false)
  | 17 => ("SteppedCacheModel", "put", "I", false)
  | 18 => ("SteppedCacheModel", "life", "I", false)
  | 19 => ("SteppedCacheModel", "wanted", "I", false)
  | 20 => ("SteppedCacheModel", "target", "I", false)
  | 21 => ("SteppedCacheModel", "last", "I", false)
  | 22 => ("SteppedCacheModel", "from", "I", false)
  | 23 => ("SteppedCacheModel", "path", "[I", true)
  | 24 => ("SteppedCacheModel", "states", "[I", true)
  | 25 => ("SteppedCacheModel", "sought", "[I", true)
  | 26 => ("SteppedCacheModel", "kept", "[I", true)
  | 27 => ("SteppedCacheModel", "retries", "[I", true)
  | 28 => ("SteppedCacheModel", "got", "[I", true)
  | 29 => ("SteppedCacheModel", "copied", "[I", true)
  | 30 => ("SteppedCacheModel", "copiedMark", "[I", true)
  | 31 => ("SteppedCacheModel", "copiedEnd", "[I", true)
  | 32 => ("SteppedCacheModel", "evictions", "I", false)
  | 33 => ("SteppedCacheModel", "moves", "I", false)
  | 34 => ("SteppedCacheModel", "allRetries", "I", false)
  | 35 => ("SteppedCacheModel", "waits", "I", false)
  | 36 => ("SteppedCacheModel", "near", "I", false)
  | _ => ("SteppedCacheModel", "dead", "I", false)
def xnK_MO : Nat → FieldType := fun k => match k with
  | 0 => .int
  | 1 => .int
  | 2 => .int
  | 3 => .int
  | 4 => .int
  | 5 => .array .int
  | 6 => .array .boolean
  | 7 => .array .int
  | 8 => .array .int
  | 9 => .array .int
  | 10 => .array .int
  | 11 => .array .boolean
  | 12 => .array .int
  | 13 => .int
  | 14 => .int
  | 15 => .int
  | 16 => .int
  | 17 => .int
  | 18 => .int
  | 19 => .int
  | 20 => .int
  | 21 => .int
  | 22 => .int
  | 23 => .array .int
  | 24 => .array .int
  | 25 => .array .int
  | 26 => .array .int
  | 27 => .array .int
  | 28 => .array .int
  | 29 => .array .int
  | 30 => .array .int
  | 31 => .array .int
  | 32 => .int
  | 33 => .int
  | 34 => .int
  | 35 => .int
  | 36 => .int
  | _ => .int
theorem xnM_MO : ∀ a, a < 38 → ∀ b, b < 38 → a ≠ b → (xnT_MO a).2.1 ≠ (xnT_MO b).2.1 := by decide +kernel
theorem xnO_MO : ∀ k, k < 38 → parseFieldDescriptor (xnT_MO k).2.2.1 = some (xnK_MO k) := by decide +kernel
abbrev vwCl : List vw_C := [(xnR_SC, xnT_SC, 4), (xnR_TA, xnT_TA, 6), (xnR_ST, xnT_ST, 14), (xnR_WR, xnT_WR, 13), (xnR_PA, xnT_PA, 7), (xnR_RD, xnT_RD, 11), (xnR_MO, xnT_MO, 38)]
abbrev xnc_SC_init : ByteArray := prog_1_method_1_code
def xny_SC_init : MethodName := ⟨xnR_SC, "<init>", "(II)V"⟩
abbrev xnc_TA_init : ByteArray := prog_5_method_1_code
def xny_TA_init : MethodName := ⟨xnR_TA, "<init>", "()V"⟩
abbrev xnc_SC_isWithin : ByteArray := prog_1_method_21_code
def xny_SC_isWithin : MethodName := ⟨xnR_SC, "isWithin", "(III)Z"⟩
abbrev xnc_ST_init : ByteArray := prog_4_method_1_code
def xny_ST_init : MethodName := ⟨xnR_ST, "<init>", "(IILSteppedCache$Tally;)V"⟩
abbrev xnc_AR_fill : ByteArray := prog_9_method_103_code
def xny_AR_fill : MethodName := ⟨xnR_AR, "fill", "([II)V"⟩
abbrev xnc_WR_init : ByteArray := prog_6_method_1_code
def xny_WR_init : MethodName := ⟨xnR_WR, "<init>", "(LSteppedCache$Store;LSteppedCache$Tally;)V"⟩
abbrev xnc_PA_init : ByteArray := prog_2_method_1_code
def xny_PA_init : MethodName := ⟨xnR_PA, "<init>", "(LSteppedCache$Store;)V"⟩
abbrev xnc_RD_init : ByteArray := prog_3_method_1_code
def xny_RD_init : MethodName := ⟨xnR_RD, "<init>", "(LSteppedCache$Store;LSteppedCache$Writer;LSteppedCache$Tally;)V"⟩
abbrev xnc_SC_write : ByteArray := prog_1_method_2_code
def xny_SC_write : MethodName := ⟨xnR_SC, "write", "(IIIII)Z"⟩
abbrev xnc_WR_isUnderWay : ByteArray := prog_6_method_2_code
def xny_WR_isUnderWay : MethodName := ⟨xnR_WR, "isUnderWay", "()Z"⟩
abbrev xnc_WR_begin : ByteArray := prog_6_method_3_code
def xny_WR_begin : MethodName := ⟨xnR_WR, "begin", "(IIIII)V"⟩
abbrev xnc_SC_work : ByteArray := prog_1_method_3_code
def xny_SC_work : MethodName := ⟨xnR_SC, "work", "(I)I"⟩
abbrev xnc_WR_goOn : ByteArray := prog_6_method_4_code
def xny_WR_goOn : MethodName := ⟨xnR_WR, "goOn", "()V"⟩
abbrev xnc_WR_lookUpKey : ByteArray := prog_6_method_5_code
def xny_WR_lookUpKey : MethodName := ⟨xnR_WR, "lookUpKey", "()V"⟩
abbrev xnc_ST_lookUp : ByteArray := prog_4_method_5_code
def xny_ST_lookUp : MethodName := ⟨xnR_ST, "lookUp", "(I)I"⟩
abbrev xnc_SC_firstBucket : ByteArray := prog_1_method_25_code
def xny_SC_firstBucket : MethodName := ⟨xnR_SC, "firstBucket", "(I)I"⟩
abbrev xnc_SC_mix : ByteArray := prog_1_method_22_code
def xny_SC_mix : MethodName := ⟨xnR_SC, "mix", "(I)I"⟩
abbrev xnc_ST_lookUpIn : ByteArray := prog_4_method_7_code
def xny_ST_lookUpIn : MethodName := ⟨xnR_ST, "lookUpIn", "(II)I"⟩
abbrev xnc_ST_findIn : ByteArray := prog_4_method_6_code
def xny_ST_findIn : MethodName := ⟨xnR_ST, "findIn", "(II)I"⟩
abbrev xnc_SC_tagOf : ByteArray := prog_1_method_23_code
def xny_SC_tagOf : MethodName := ⟨xnR_SC, "tagOf", "(I)I"⟩
abbrev xnc_SC_secondBucket : ByteArray := prog_1_method_26_code
def xny_SC_secondBucket : MethodName := ⟨xnR_SC, "secondBucket", "(I)I"⟩
abbrev xnc_SC_otherBucket : ByteArray := prog_1_method_27_code
def xny_SC_otherBucket : MethodName := ⟨xnR_SC, "otherBucket", "(II)I"⟩
abbrev xnc_ST_isOver : ByteArray := prog_4_method_3_code
def xny_ST_isOver : MethodName := ⟨xnR_ST, "isOver", "(I)Z"⟩
abbrev xnc_ST_remove : ByteArray := prog_4_method_10_code
def xny_ST_remove : MethodName := ⟨xnR_ST, "remove", "(I)V"⟩
abbrev xnc_ST_growVersion : ByteArray := prog_4_method_9_code
def xny_ST_growVersion : MethodName := ⟨xnR_ST, "growVersion", "(II)V"⟩
abbrev xnc_SC_stripeOf : ByteArray := prog_1_method_24_code
def xny_SC_stripeOf : MethodName := ⟨xnR_SC, "stripeOf", "(I)I"⟩
abbrev xnc_WR_chooseWhenFound : ByteArray := prog_6_method_6_code
def xny_WR_chooseWhenFound : MethodName := ⟨xnR_WR, "chooseWhenFound", "(I)V"⟩
abbrev xnc_WR_chooseWhenNotFound : ByteArray := prog_6_method_7_code
def xny_WR_chooseWhenNotFound : MethodName := ⟨xnR_WR, "chooseWhenNotFound", "()V"⟩
abbrev xnc_ST_isFull : ByteArray := prog_4_method_2_code
def xny_ST_isFull : MethodName := ⟨xnR_ST, "isFull", "()Z"⟩
abbrev xnc_WR_changeValue : ByteArray := prog_6_method_8_code
def xny_WR_changeValue : MethodName := ⟨xnR_WR, "changeValue", "()V"⟩
abbrev xnc_WR_changeToken : ByteArray := prog_6_method_9_code
def xny_WR_changeToken : MethodName := ⟨xnR_WR, "changeToken", "()V"⟩
abbrev xnc_ST_renew : ByteArray := prog_4_method_11_code
def xny_ST_renew : MethodName := ⟨xnR_ST, "renew", "(II)V"⟩
abbrev xnc_WR_evict : ByteArray := prog_6_method_10_code
def xny_WR_evict : MethodName := ⟨xnR_WR, "evict", "()V"⟩
abbrev xnc_WR_turnHand : ByteArray := prog_6_method_11_code
def xny_WR_turnHand : MethodName := ⟨xnR_WR, "turnHand", "()V"⟩
abbrev xnc_WR_seekPath : ByteArray := prog_6_method_12_code
def xny_WR_seekPath : MethodName := ⟨xnR_WR, "seekPath", "()V"⟩
abbrev xnc_PA_seek : ByteArray := prog_2_method_2_code
def xny_PA_seek : MethodName := ⟨xnR_PA, "seek", "(I)Z"⟩
abbrev xnc_PA_enter : ByteArray := prog_2_method_3_code
def xny_PA_enter : MethodName := ⟨xnR_PA, "enter", "(III)V"⟩
abbrev xnc_PA_keep : ByteArray := prog_2_method_4_code
def xny_PA_keep : MethodName := ⟨xnR_PA, "keep", "(I)V"⟩
abbrev xnc_WR_chooseMove : ByteArray := prog_6_method_13_code
def xny_WR_chooseMove : MethodName := ⟨xnR_WR, "chooseMove", "()V"⟩
abbrev xnc_WR_moveOn : ByteArray := prog_6_method_14_code
def xny_WR_moveOn : MethodName := ⟨xnR_WR, "moveOn", "()V"⟩
abbrev xnc_WR_moveOff : ByteArray := prog_6_method_15_code
def xny_WR_moveOff : MethodName := ⟨xnR_WR, "moveOff", "()V"⟩
abbrev xnc_WR_insertKey : ByteArray := prog_6_method_16_code
def xny_WR_insertKey : MethodName := ⟨xnR_WR, "insertKey", "()V"⟩
abbrev xnc_ST_insert : ByteArray := prog_4_method_13_code
def xny_ST_insert : MethodName := ⟨xnR_ST, "insert", "(IIII)V"⟩
abbrev xnc_ST_lowestFree : ByteArray := prog_4_method_12_code
def xny_ST_lowestFree : MethodName := ⟨xnR_ST, "lowestFree", "()I"⟩
abbrev xnc_SC_outcome : ByteArray := prog_1_method_4_code
def xny_SC_outcome : MethodName := ⟨xnR_SC, "outcome", "()I"⟩
abbrev xnc_SC_get : ByteArray := prog_1_method_5_code
def xny_SC_get : MethodName := ⟨xnR_SC, "get", "(II)Z"⟩
abbrev xnc_SC_isReader : ByteArray := prog_1_method_20_code
def xny_SC_isReader : MethodName := ⟨xnR_SC, "isReader", "(I)Z"⟩
abbrev xnc_RD_isUnderWay : ByteArray := prog_3_method_2_code
def xny_RD_isUnderWay : MethodName := ⟨xnR_RD, "isUnderWay", "()Z"⟩
abbrev xnc_RD_begin : ByteArray := prog_3_method_3_code
def xny_RD_begin : MethodName := ⟨xnR_RD, "begin", "(I)V"⟩
abbrev xnc_SC_step : ByteArray := prog_1_method_6_code
def xny_SC_step : MethodName := ⟨xnR_SC, "step", "(I)I"⟩
abbrev xnc_RD_goOn : ByteArray := prog_3_method_4_code
def xny_RD_goOn : MethodName := ⟨xnR_RD, "goOn", "()V"⟩
abbrev xnc_RD_keepVersion : ByteArray := prog_3_method_5_code
def xny_RD_keepVersion : MethodName := ⟨xnR_RD, "keepVersion", "()V"⟩
abbrev xnc_ST_versionFor : ByteArray := prog_4_method_8_code
def xny_ST_versionFor : MethodName := ⟨xnR_ST, "versionFor", "(I)I"⟩
abbrev xnc_RD_lookInto : ByteArray := prog_3_method_6_code
def xny_RD_lookInto : MethodName := ⟨xnR_RD, "lookInto", "(II)V"⟩
abbrev xnc_RD_copyItem : ByteArray := prog_3_method_7_code
def xny_RD_copyItem : MethodName := ⟨xnR_RD, "copyItem", "()V"⟩
abbrev xnc_RD_checkVersion : ByteArray := prog_3_method_8_code
def xny_RD_checkVersion : MethodName := ⟨xnR_RD, "checkVersion", "()V"⟩
abbrev xnc_RD_end : ByteArray := prog_3_method_10_code
def xny_RD_end : MethodName := ⟨xnR_RD, "end", "(Z)V"⟩
abbrev xnc_RD_readLocked : ByteArray := prog_3_method_9_code
def xny_RD_readLocked : MethodName := ⟨xnR_RD, "readLocked", "()V"⟩
abbrev xnc_SC_state : ByteArray := prog_1_method_7_code
def xny_SC_state : MethodName := ⟨xnR_SC, "state", "(I)I"⟩
abbrev xnc_SC_value : ByteArray := prog_1_method_8_code
def xny_SC_value : MethodName := ⟨xnR_SC, "value", "(I)I"⟩
abbrev xnc_SC_isHit : ByteArray := prog_1_method_19_code
def xny_SC_isHit : MethodName := ⟨xnR_SC, "isHit", "(I)Z"⟩
abbrev xnc_SC_token : ByteArray := prog_1_method_9_code
def xny_SC_token : MethodName := ⟨xnR_SC, "token", "(I)I"⟩
abbrev xnc_SC_pass : ByteArray := prog_1_method_10_code
def xny_SC_pass : MethodName := ⟨xnR_SC, "pass", "(I)Z"⟩
abbrev xnc_SC_where : ByteArray := prog_1_method_11_code
def xny_SC_where : MethodName := ⟨xnR_SC, "where", "(I)I"⟩
abbrev xnc_ST_find : ByteArray := prog_4_method_4_code
def xny_ST_find : MethodName := ⟨xnR_ST, "find", "(I)I"⟩
abbrev xnc_SC_at : ByteArray := prog_1_method_12_code
def xny_SC_at : MethodName := ⟨xnR_SC, "at", "(I)I"⟩
abbrev xnc_SC_item : ByteArray := prog_1_method_13_code
def xny_SC_item : MethodName := ⟨xnR_SC, "item", "(II)I"⟩
abbrev xnc_SC_isUsedItem : ByteArray := prog_1_method_18_code
def xny_SC_isUsedItem : MethodName := ⟨xnR_SC, "isUsedItem", "(I)Z"⟩
abbrev xnc_SC_used : ByteArray := prog_1_method_14_code
def xny_SC_used : MethodName := ⟨xnR_SC, "used", "(I)Z"⟩
abbrev xnc_SC_version : ByteArray := prog_1_method_15_code
def xny_SC_version : MethodName := ⟨xnR_SC, "version", "(I)I"⟩
abbrev xnc_SC_hash : ByteArray := prog_1_method_16_code
def xny_SC_hash : MethodName := ⟨xnR_SC, "hash", "(I)I"⟩
abbrev xnc_SC_count : ByteArray := prog_1_method_17_code
def xny_SC_count : MethodName := ⟨xnR_SC, "count", "(I)I"⟩
abbrev xnc_LW_cell : ByteArray := method_2_code
def xny_LW_cell : MethodName := ⟨xnR_LW, "cell", "([II)I"⟩
abbrev xnc_MO_init : ByteArray := prog_8_method_1_code
def xny_MO_init : MethodName := ⟨xnR_MO, "<init>", "(II)V"⟩
abbrev xnc_MO_hash : ByteArray := prog_8_method_6_code
def xny_MO_hash : MethodName := ⟨xnR_MO, "hash", "(I)I"⟩
abbrev xnc_MO_bucket : ByteArray := prog_8_method_5_code
def xny_MO_bucket : MethodName := ⟨xnR_MO, "bucket", "(II)I"⟩
abbrev xnc_MO_mix : ByteArray := prog_8_method_2_code
def xny_MO_mix : MethodName := ⟨xnR_MO, "mix", "(I)I"⟩
abbrev xnc_MO_tag : ByteArray := prog_8_method_3_code
def xny_MO_tag : MethodName := ⟨xnR_MO, "tag", "(I)I"⟩
abbrev xnc_MO_stripe : ByteArray := prog_8_method_4_code
def xny_MO_stripe : MethodName := ⟨xnR_MO, "stripe", "(I)I"⟩
abbrev xnc_MO_where : ByteArray := prog_8_method_10_code
def xny_MO_where : MethodName := ⟨xnR_MO, "where", "(I)I"⟩
abbrev xnc_MO_search : ByteArray := prog_8_method_7_code
def xny_MO_search : MethodName := ⟨xnR_MO, "search", "(II)I"⟩
abbrev xnc_MO_write : ByteArray := prog_8_method_14_code
def xny_MO_write : MethodName := ⟨xnR_MO, "write", "(IIIII)Z"⟩
abbrev xnc_MO_work : ByteArray := prog_8_method_15_code
def xny_MO_work : MethodName := ⟨xnR_MO, "work", "(I)I"⟩
abbrev xnc_MO_one : ByteArray := prog_8_method_18_code
def xny_MO_one : MethodName := ⟨xnR_MO, "one", "()V"⟩
abbrev xnc_MO_begin : ByteArray := prog_8_method_20_code
def xny_MO_begin : MethodName := ⟨xnR_MO, "begin", "()V"⟩
abbrev xnc_MO_lookBoth : ByteArray := prog_8_method_9_code
def xny_MO_lookBoth : MethodName := ⟨xnR_MO, "lookBoth", "(I)I"⟩
abbrev xnc_MO_look : ByteArray := prog_8_method_8_code
def xny_MO_look : MethodName := ⟨xnR_MO, "look", "(II)I"⟩
abbrev xnc_MO_over : ByteArray := prog_8_method_11_code
def xny_MO_over : MethodName := ⟨xnR_MO, "over", "(I)Z"⟩
abbrev xnc_MO_remove : ByteArray := prog_8_method_12_code
def xny_MO_remove : MethodName := ⟨xnR_MO, "remove", "(I)V"⟩
abbrev xnc_MO_finish : ByteArray := prog_8_method_17_code
def xny_MO_finish : MethodName := ⟨xnR_MO, "finish", "(I)V"⟩
abbrev xnc_MO_many : ByteArray := prog_8_method_13_code
def xny_MO_many : MethodName := ⟨xnR_MO, "many", "()I"⟩
abbrev xnc_MO_stamp : ByteArray := prog_8_method_19_code
def xny_MO_stamp : MethodName := ⟨xnR_MO, "stamp", "(I)V"⟩
abbrev xnc_MO_evict : ByteArray := prog_8_method_21_code
def xny_MO_evict : MethodName := ⟨xnR_MO, "evict", "()V"⟩
abbrev xnc_MO_seek : ByteArray := prog_8_method_23_code
def xny_MO_seek : MethodName := ⟨xnR_MO, "seek", "()V"⟩
abbrev xnc_MO_leads : ByteArray := prog_8_method_22_code
def xny_MO_leads : MethodName := ⟨xnR_MO, "leads", "(II)Z"⟩
abbrev xnc_MO_move : ByteArray := prog_8_method_24_code
def xny_MO_move : MethodName := ⟨xnR_MO, "move", "()V"⟩
abbrev xnc_MO_enter : ByteArray := prog_8_method_25_code
def xny_MO_enter : MethodName := ⟨xnR_MO, "enter", "()V"⟩
abbrev xnc_MO_outcome : ByteArray := prog_8_method_16_code
def xny_MO_outcome : MethodName := ⟨xnR_MO, "outcome", "()I"⟩
abbrev xnc_MO_get : ByteArray := prog_8_method_28_code
def xny_MO_get : MethodName := ⟨xnR_MO, "get", "(II)Z"⟩
abbrev xnc_MO_reader : ByteArray := prog_8_method_26_code
def xny_MO_reader : MethodName := ⟨xnR_MO, "reader", "(I)Z"⟩
abbrev xnc_MO_reading : ByteArray := prog_8_method_27_code
def xny_MO_reading : MethodName := ⟨xnR_MO, "reading", "(I)Z"⟩
abbrev xnc_MO_step : ByteArray := prog_8_method_29_code
def xny_MO_step : MethodName := ⟨xnR_MO, "step", "(I)I"⟩
abbrev xnc_MO_keep : ByteArray := prog_8_method_30_code
def xny_MO_keep : MethodName := ⟨xnR_MO, "keep", "(II)V"⟩
abbrev xnc_MO_find : ByteArray := prog_8_method_31_code
def xny_MO_find : MethodName := ⟨xnR_MO, "find", "(II)V"⟩
abbrev xnc_MO_copy : ByteArray := prog_8_method_32_code
def xny_MO_copy : MethodName := ⟨xnR_MO, "copy", "(I)V"⟩
abbrev xnc_MO_check : ByteArray := prog_8_method_33_code
def xny_MO_check : MethodName := ⟨xnR_MO, "check", "(I)V"⟩
abbrev xnc_MO_locked : ByteArray := prog_8_method_34_code
def xny_MO_locked : MethodName := ⟨xnR_MO, "locked", "(I)V"⟩
abbrev xnc_MO_state : ByteArray := prog_8_method_35_code
def xny_MO_state : MethodName := ⟨xnR_MO, "state", "(I)I"⟩
abbrev xnc_MO_value : ByteArray := prog_8_method_36_code
def xny_MO_value : MethodName := ⟨xnR_MO, "value", "(I)I"⟩
abbrev xnc_MO_token : ByteArray := prog_8_method_37_code
def xny_MO_token : MethodName := ⟨xnR_MO, "token", "(I)I"⟩
abbrev xnc_MO_pass : ByteArray := prog_8_method_38_code
def xny_MO_pass : MethodName := ⟨xnR_MO, "pass", "(I)Z"⟩
abbrev xnc_MO_at : ByteArray := prog_8_method_39_code
def xny_MO_at : MethodName := ⟨xnR_MO, "at", "(I)I"⟩
abbrev xnc_MO_used : ByteArray := prog_8_method_40_code
def xny_MO_used : MethodName := ⟨xnR_MO, "used", "(I)Z"⟩
abbrev xnc_MO_item : ByteArray := prog_8_method_41_code
def xny_MO_item : MethodName := ⟨xnR_MO, "item", "(II)I"⟩
abbrev xnc_MO_version : ByteArray := prog_8_method_42_code
def xny_MO_version : MethodName := ⟨xnR_MO, "version", "(I)I"⟩
abbrev xnc_MO_count : ByteArray := prog_8_method_43_code
def xny_MO_count : MethodName := ⟨xnR_MO, "count", "(I)I"⟩
abbrev xnc_LW_law : ByteArray := code
def xny_LW_law : MethodName := ⟨xnR_LW, "law", "([I)Z"⟩
end
section
/-! The frame of all walks: one world function, a body's judgement xf_V, contracts xf_M over all words of the tables. -/
abbrev xf_T : Type := (Nat → Int32) × (Nat → Nat → Int32)
/-- the class's numbers, and the reference's -/
abbrev xf_S : Type := xf_T × xf_T
/-- a scalar is set -/
def xf_I (σ : xf_T) (k : Nat) (v : Int32) : xf_T := (upd σ.1 k v, σ.2)
/-- an element of array j is set -/
def xf_A (σ : xf_T) (j i : Nat) (v : Int32) : xf_T := (σ.1, fun k => if k = j then upd (σ.2 j) i v else σ.2 k)
def xf_nest : Cond → Bool
  | .methodLinkNest .. => true
  | .fieldLinkNest .. => true
  | _ => false
def xf_GW : List Cond := lw_tbl.filter goodWord
def xf_NL : List Cond := lw_tbl.filter xf_nest
def xf_NW (U : State) : Prop := ∀ w ∈ xf_NL, va_Nw w U
theorem xf_NW_warm {s U : State} (hW : s.WarmedH U.vm) (h : xf_NW s) : xf_NW U := fun w hw => by
  have hk := (List.mem_filter.mp hw).2
  have h0 := h w hw
  cases w <;> first | exact va_Nw.warmF hW h0 | exact va_Nw.warmM hW h0 | (simp [xf_nest] at hk)
theorem xf_NW_vm {s U : State} (hW : s.vm = U.vm) (h : xf_NW s) : xf_NW U := fun w hw => by
  have hk := (List.mem_filter.mp hw).2
  have h0 := h w hw
  cases w <;> first | exact va_Nw.same rfl hW h0 | (simp [xf_nest] at hk)
theorem xf_good {y : MethodName} {cc : ByteArray} {nL : Nat} {ret : Option FieldType} (h : Cond.code y cc nL ret ∈ xf_GW) : GoodIn xf_GW (.code y cc nL ret :: xf_GW) := by
  intro w hw
  have hg : w ∈ xf_GW := by
    rcases List.mem_cons.mp hw with rfl | h1
    · exact h
    · exact h1
  exact ⟨hg, good_of_word (List.mem_filter.mp hg).2⟩
/-! locals: the k-th entry is what local k holds, if that is known -/
def xf_pr : Nat → List (Option Value) → List (Nat × Value)
  | _, [] => []
  | k, none :: r => xf_pr (k + 1) r
  | k, some v :: r => (k, v) :: xf_pr (k + 1) r
theorem xf_pr_mem : ∀ (L : List (Option Value)) (k : Nat) (q : Nat × Value), q ∈ xf_pr k L ↔ ∃ j, L[j]? = some (some q.2) ∧ q.1 = k + j
  | [], k, q => by simp [xf_pr]
  | none :: r, k, q => by
    rw [xf_pr, xf_pr_mem r (k + 1) q]
    constructor
    · rintro ⟨j, h1, h2⟩
      exact ⟨j + 1, by simpa using h1, by omega⟩
    · rintro ⟨j, h1, h2⟩
      cases j with
      | zero => simp at h1
      | succ j => exact ⟨j, by simpa using h1, by omega⟩
  | some v :: r, k, q => by
    rw [xf_pr, List.mem_cons, xf_pr_mem r (k + 1) q]
    constructor
    · rintro (rfl | ⟨j, h1, h2⟩)
      · exact ⟨0, by simp, by simp⟩
      · exact ⟨j + 1, by simpa using h1, by omega⟩
    · rintro ⟨j, h1, h2⟩
      cases j with
      | zero =>
        left
        obtain ⟨a, b⟩ := q
        simp at h1 h2
        rw [h1, h2]
      | succ j => exact Or.inr ⟨j, by simpa using h1, by omega⟩
def xf_has (ls : Array Slot) (nL : Nat) (L : List (Option Value)) : Prop := lv_has ls nL (xf_pr 0 L) ∧ ∀ (j : Nat) (v : Value), L[j]? = some (some v) → v.category = 1
theorem xf_has.at {ls : Array Slot} {nL : Nat} {L : List (Option Value)} (h : xf_has ls nL L) {k : Nat} {v : Value} (hk : L[k]? = some (some v)) : ls[k]? = some (.val v) :=
  h.1.2.2 (k, v) ((xf_pr_mem L 0 (k, v)).mpr ⟨k, hk, by simp⟩)
theorem xf_has.set {ls : Array Slot} {nL : Nat} {L : List (Option Value)} {i : Nat} {v : Value} (hL : xf_has ls nL L) (hc : v.category = 1) {ls' : Array Slot} (h' : lv_has ls' nL ((i, v) :: (xf_pr 0 L).filter (fun q => !(q.1 == i) && !(q.1 + 1 == i && q.2.category == 2)))) : xf_has ls' nL (L.set i (some v)) := by
  have key : ∀ (j : Nat) (u : Value), (L.set i (some v))[j]? = some (some u) → (j = i ∧ u = v) ∨ (j ≠ i ∧ L[j]? = some (some u)) := by
    intro j u hj
    by_cases hji : j = i
    · subst hji
      by_cases hl : j < L.length
      · rw [List.getElem?_set_self hl] at hj
        exact Or.inl ⟨rfl, (Option.some.inj (Option.some.inj hj)).symm⟩
      · rw [List.getElem?_eq_none (by simpa using hl)] at hj
        cases hj
    · rw [List.getElem?_set_ne (Ne.symm hji)] at hj
      exact Or.inr ⟨hji, hj⟩
  refine ⟨⟨h'.1, h'.2.1, fun q hq => ?_⟩, fun j u hj => ?_⟩
  · obtain ⟨j, h1, h2⟩ := (xf_pr_mem _ 0 q).mp hq
    have hq1 : q.1 = j := by omega
    rcases key j q.2 h1 with ⟨e1, e2⟩ | ⟨e1, e2⟩
    · have : q = (i, v) := by
        obtain ⟨a, b⟩ := q
        simp at hq1 e2
        rw [hq1, e1, e2]
      rw [this]
      exact h'.2.2 (i, v) List.mem_cons_self
    · refine h'.2.2 q (List.mem_cons_of_mem _ (List.mem_filter.mpr ⟨(xf_pr_mem L 0 q).mpr ⟨j, e2, by omega⟩, ?_⟩))
      have hc1 := hL.2 j q.2 e2
      have : ¬ q.1 = i := by rw [hq1]; exact e1
      simp [this, hc1]
  · rcases key j u hj with ⟨e1, e2⟩ | ⟨e1, e2⟩
    · rw [e2]; exact hc
    · exact hL.2 j u e2
/-! a body's fixed things, in one -/
abbrev xf_C : Type := Program × Launch × Env × Room × State × MethodId × Array Value × List Frame × Method × Code × (Nat → Prop) × (State → Prop) × va_G × List (ClassId × FieldType) × (xf_S → va_W) × Nat × Nat × Nat
/-- from here, whatever the heap that holds the world, the machine comes to its end -/
def xf_V (X : xf_C) (pc : Nat) (L : List (Option Value)) (st : List Value) (σ : xf_S) : Prop := match X with
  | (p, l, e, R, s, m, args, below, meth, c, A, Q, D, tys, wf, nL, cells, slots) => ∀ (H : Heap) (locs : List Loc) (ls : Array Slot), va_P D vwCl (wf σ) H → va_D A (wf σ) → va_S A s.heap H locs → xf_has ls nL L → W p l e R s m args below meth c H locs cells slots Q (F0 m pc ls st)
def xf_ok (X : xf_C) (l0 : Launch) (own : String) (cc : ByteArray) (nL0 fr lo : Nat) (wf0 : xf_S → va_W) (D0 : va_G) (tys0 : List (ClassId × FieldType)) : Prop := match X with
  | (p, l, e, R, s, m, args, below, meth, c, A, Q, D, tys, wf, nL, cells, slots) => (l = l0 ∧ nL = nL0 ∧ wf = wf0 ∧ D = D0 ∧ tys = tys0) ∧ p.tables.exec = Jvm.exec ∧ c.code = cc ∧ c.maxLocals = nL ∧ s.vm.findClass own = some m.cls ∧ (∀ w ∈ xf_GW, w.before args s = true) ∧ va_K D vwCl tys s ∧ xf_NW s ∧ (∀ q : Nat, s.heap.size ≤ q → A q) ∧ (R.frames = fr ∧ R.locals = lo) ∧ cells ≤ R.cells ∧ slots ≤ R.slots
def xf_Qc (D : va_G) (tys : List (ClassId × FieldType)) (wf : xf_S → va_W) (A : Nat → Prop) (rq : Option Value → xf_S → Prop) : Array Value → State → Outcome → State → Prop := fun _ st oc t => (∃ (v : Option Value) (u : xf_S), oc = .returned v ∧ rq v u ∧ va_P D vwCl (wf u) t.heap ∧ va_K D vwCl tys t ∧ va_D A (wf u)) ∧ va_F A st t
def xf_end (X : xf_C) (ret : Option FieldType) (rq : Option Value → xf_S → Prop) : Prop := match X with
  | (p, l, e, R, s, m, args, below, meth, c, A, Q, D, tys, wf, nL, cells, slots) => meth.sig.returnType = ret ∧ meth.locks = false ∧ Q = MQ below (xf_Qc D tys wf A rq) args s cells slots A
/-- a contract: from the world σ and the arguments av, the method comes back with rq -/
def xf_M (l : Launch) (y : MethodName) (cc : ByteArray) (nL : Nat) (ret : Option FieldType) (fr lo : Nat) (wf : xf_S → va_W) (D : va_G) (tys : List (ClassId × FieldType)) (av : List Value) (σ : xf_S) (rq : Option Value → xf_S → Prop) : Prop :=
  ∀ sz : Nat, Met l y (.code y cc nL ret :: xf_GW) { frames := fr, cells := 0, slots := 0, locals := lo } (va_Pc av (fun U => U.heap.size = sz ∧ va_P D vwCl (wf σ) U.heap ∧ va_K D vwCl tys U ∧ va_D (fun _ => True) (wf σ) ∧ xf_NW U)) (xf_Qc D tys wf (va_A (wf σ) sz) rq) 0 0 (va_A (wf σ) sz)
/-- a contract that says all: the answer v, the world σ' -/
def xf_F (l : Launch) (y : MethodName) (cc : ByteArray) (nL : Nat) (ret : Option FieldType) (fr lo : Nat) (wf : xf_S → va_W) (D : va_G) (tys : List (ClassId × FieldType)) (av : List Value) (σ : xf_S) (v : Option Value) (σ' : xf_S) : Prop := xf_M l y cc nL ret fr lo wf D tys av σ (fun v' u => v' = v ∧ u = σ')
def xf_cats (L : List (Option Value)) : Bool := L.all (fun o => match o with
  | none => true
  | some v => v.category == 1)
theorem xf_cat {L : List (Option Value)} (h : xf_cats L = true) : ∀ (j : Nat) (v : Value), L[j]? = some (some v) → v.category = 1 := by
  intro j v hj
  have := List.all_eq_true.mp h _ (List.mem_of_getElem? hj)
  simpa using this
theorem xf_start {l : Launch} {y : MethodName} {cc : ByteArray} {nL : Nat} {ret : Option FieldType} {fr lo : Nat} {wf : xf_S → va_W} {D : va_G} {tys : List (ClassId × FieldType)} {av : List Value} {σ : xf_S} {rq : Option Value → xf_S → Prop} {own : String} (L : List (Option Value)) (ho : y.cls = own) (hy : plainName y.cls = true) (hn : (lg_sl av).length ≤ nL) (hL : xf_pr 0 L = lv_args 0 av) (hc : ∀ (j : Nat) (v : Value), L[j]? = some (some v) → v.category = 1)
    (body : ∀ X : xf_C, xf_ok X l own cc nL fr lo wf D tys → xf_end X ret rq → xf_V X 0 L [] σ) : xf_M l y cc nL ret fr lo wf D tys av σ rq := by
  subst ho
  intro sz
  refine Met.ofW (cc := cc) (maxL := nL) (ret := ret) hy rfl ?_
  intro p e s m args below meth c s₁ B hml hv
  obtain ⟨rfl, hsz, hP, hK, hD0, hN⟩ := hv
  subst hsz
  have hD := hD0.self (sz := s.heap.size)
  have hts := atoms_spec (ws := .code y cc nL ret :: xf_GW) B.pre
  have hl := lv_entry av (n := nL) hn
  rw [lg_entry_eq]
  have V := body (p, l, e, (headSpec (.code y cc nL ret :: xf_GW) ({ frames := fr, cells := 0, slots := 0, locals := lo } : Room)).room, s, m, av.toArray, below, meth, c, va_A (wf σ) s.heap.size, _, D, tys, wf, nL, 0, 0) ⟨⟨rfl, rfl, rfl, rfl, rfl⟩, B.exec, B.bytes, hml, findClass_of_methodNamed B.named, fun w hw => hts w (List.mem_cons_of_mem _ hw), hK, hN, fun q h => Or.inr h, ⟨rfl, rfl⟩, Nat.zero_le _, Nat.zero_le _⟩ ⟨B.returns, B.notSynchronized, rfl⟩
  exact V s.heap [] _ hP hD va_S.rf ⟨by rw [hL]; exact hl, hc⟩
section XFR
variable {X : xf_C} {l : Launch} {own : String} {cc : ByteArray} {nL fr lo : Nat} {wf : xf_S → va_W} {D : va_G} {tys : List (ClassId × FieldType)} {pc : Nat} {L : List (Option Value)} {st : List Value} {σ : xf_S}
theorem xf_iconst (hX : xf_ok X l own cc nL fr lo wf D tys) (np : Nat) (hp : pc + 1 = np) {n : Int} (v : Int32) (hd : decode cc pc = .ok (.iconst n, 1)) (hv : Int32.ofInt n = v) (k : xf_V X np L (.int v :: st) σ) : xf_V X pc L st σ := by
  subst hp
  obtain ⟨p, l, e, R, s, m, args, below, meth, c, A, Q, D, tys, wf, nL, cells, slots⟩ := X
  exact fun H locs ls hP hD hS hl => lv_iconst hX.2.1 hX.2.2.1 hd hv (k H locs ls hP hD hS hl)
theorem xf_bipush (hX : xf_ok X l own cc nL fr lo wf D tys) (np : Nat) (hp : pc + 2 = np) {n : Int} (v : Int32) (hd : decode cc pc = .ok (.bipush n, 2)) (hv : (Int8.ofInt n).toInt32 = v) (k : xf_V X np L (.int v :: st) σ) : xf_V X pc L st σ := by
  subst hp
  obtain ⟨p, l, e, R, s, m, args, below, meth, c, A, Q, D, tys, wf, nL, cells, slots⟩ := X
  exact fun H locs ls hP hD hS hl => lv_bipush hX.2.1 hX.2.2.1 hd hv (k H locs ls hP hD hS hl)
theorem xf_sipush (hX : xf_ok X l own cc nL fr lo wf D tys) (np : Nat) (hp : pc + 3 = np) {n : Int} (v : Int32) (hd : decode cc pc = .ok (.sipush n, 3)) (hv : (Int16.ofInt n).toInt32 = v) (k : xf_V X np L (.int v :: st) σ) : xf_V X pc L st σ := by
  subst hp
  obtain ⟨p, l, e, R, s, m, args, below, meth, c, A, Q, D, tys, wf, nL, cells, slots⟩ := X
  exact fun H locs ls hP hD hS hl => lv_sipush hX.2.1 hX.2.2.1 hd hv (k H locs ls hP hD hS hl)
theorem xf_ldc (hX : xf_ok X l own cc nL fr lo wf D tys) (np : Nat) (hp : pc + 2 = np) {idx : Nat} {v : Int32} (hw : Cond.constant own idx v ∈ xf_GW) (hd : decode cc pc = .ok (.ldc idx, 2)) (k : xf_V X np L (.int v :: st) σ) : xf_V X pc L st σ := by
  subst hp
  obtain ⟨p, l, e, R, s, m, args, below, meth, c, A, Q, D, tys, wf, nL, cells, slots⟩ := X
  exact fun H locs ls hP hD hS hl => lv_ldc hX.2.1 hX.2.2.1 hX.2.2.2.2.1 (hX.2.2.2.2.2.1 _ hw) hd (k H locs ls hP hD hS hl)
theorem xf_iload_n (hX : xf_ok X l own cc nL fr lo wf D tys) (np : Nat) (hp : pc + 1 = np) {k : Fin 4} (i : Nat) {x : Int32} (hd : decode cc pc = .ok (.iload_n k, 1)) (hi : (k : Nat) = i) (hk : L[i]? = some (some (.int x))) (kk : xf_V X np L (.int x :: st) σ) : xf_V X pc L st σ := by
  subst hp
  obtain ⟨p, l, e, R, s, m, args, below, meth, c, A, Q, D, tys, wf, nL, cells, slots⟩ := X
  exact fun H locs ls hP hD hS hl => lv_iload_n hX.2.1 hX.2.2.1 hd hi (hl.at hk) (kk H locs ls hP hD hS hl)
theorem xf_iload (hX : xf_ok X l own cc nL fr lo wf D tys) (np : Nat) (hp : pc + 2 = np) {i : Nat} {x : Int32} (hd : decode cc pc = .ok (.iload i, 2)) (hk : L[i]? = some (some (.int x))) (kk : xf_V X np L (.int x :: st) σ) : xf_V X pc L st σ := by
  subst hp
  obtain ⟨p, l, e, R, s, m, args, below, meth, c, A, Q, D, tys, wf, nL, cells, slots⟩ := X
  exact fun H locs ls hP hD hS hl => lv_iload hX.2.1 hX.2.2.1 hd (hl.at hk) (kk H locs ls hP hD hS hl)
theorem xf_aload_n (hX : xf_ok X l own cc nL fr lo wf D tys) (np : Nat) (hp : pc + 1 = np) {k : Fin 4} (i : Nat) {x : Nat} (hd : decode cc pc = .ok (.aload_n k, 1)) (hi : (k : Nat) = i) (hk : L[i]? = some (some (.ref x))) (kk : xf_V X np L (.ref x :: st) σ) : xf_V X pc L st σ := by
  subst hp
  obtain ⟨p, l, e, R, s, m, args, below, meth, c, A, Q, D, tys, wf, nL, cells, slots⟩ := X
  exact fun H locs ls hP hD hS hl => lv_aload_n hX.2.1 hX.2.2.1 hd hi (hl.at hk) (kk H locs ls hP hD hS hl)
theorem xf_aload (hX : xf_ok X l own cc nL fr lo wf D tys) (np : Nat) (hp : pc + 2 = np) {i : Nat} {x : Nat} (hd : decode cc pc = .ok (.aload i, 2)) (hk : L[i]? = some (some (.ref x))) (kk : xf_V X np L (.ref x :: st) σ) : xf_V X pc L st σ := by
  subst hp
  obtain ⟨p, l, e, R, s, m, args, below, meth, c, A, Q, D, tys, wf, nL, cells, slots⟩ := X
  exact fun H locs ls hP hD hS hl => lv_aload hX.2.1 hX.2.2.1 hd (hl.at hk) (kk H locs ls hP hD hS hl)
theorem xf_istore_n (hX : xf_ok X l own cc nL fr lo wf D tys) (np : Nat) (hp : pc + 1 = np) {k : Fin 4} (i : Nat) {x : Int32} (hd : decode cc pc = .ok (.istore_n k, 1)) (hi : (k : Nat) = i) (hn : i < nL) (kk : xf_V X np (L.set i (some (.int x))) st σ) : xf_V X pc L (.int x :: st) σ := by
  subst hp
  obtain ⟨p, l, e, R, s, m, args, below, meth, c, A, Q, D, tys, wf, nL', cells, slots⟩ := X
  obtain ⟨⟨h1, h2, h3, h4, h5⟩, hx, hb, -⟩ := hX
  subst h2
  exact fun H locs ls hP hD hS hl => lv_istore_n hx hb hd hi hl.1 hn rfl (fun ls' h' => kk H locs ls' hP hD hS (hl.set rfl h'))
theorem xf_istore (hX : xf_ok X l own cc nL fr lo wf D tys) (np : Nat) (hp : pc + 2 = np) {i : Nat} {x : Int32} (hd : decode cc pc = .ok (.istore i, 2)) (hn : i < nL) (kk : xf_V X np (L.set i (some (.int x))) st σ) : xf_V X pc L (.int x :: st) σ := by
  subst hp
  obtain ⟨p, l, e, R, s, m, args, below, meth, c, A, Q, D, tys, wf, nL', cells, slots⟩ := X
  obtain ⟨⟨h1, h2, h3, h4, h5⟩, hx, hb, -⟩ := hX
  subst h2
  exact fun H locs ls hP hD hS hl => lv_istore hx hb hd hl.1 hn rfl (fun ls' h' => kk H locs ls' hP hD hS (hl.set rfl h'))
theorem xf_iinc (hX : xf_ok X l own cc nL fr lo wf D tys) (np : Nat) (hp : pc + 3 = np) {i : Nat} {n : Int} {x : Int32} (v : Int32) (hd : decode cc pc = .ok (.iinc i n, 3)) (hk : L[i]? = some (some (.int x))) (hv : x + Int32.ofInt n = v) (hn : i < nL) (kk : xf_V X np (L.set i (some (.int v))) st σ) : xf_V X pc L st σ := by
  subst hp
  obtain ⟨p, l, e, R, s, m, args, below, meth, c, A, Q, D, tys, wf, nL', cells, slots⟩ := X
  obtain ⟨⟨h1, h2, h3, h4, h5⟩, hx, hb, -⟩ := hX
  subst h2
  intro H locs ls hP hD hS hl
  obtain ⟨k, hk2⟩ := List.getElem?_of_mem ((xf_pr_mem L 0 (i, .int x)).mpr ⟨i, hk, by simp⟩)
  exact lv_iinc hx hb hd hl.1 hk2 hv hn rfl (fun ls' h' => kk H locs ls' hP hD hS (hl.set rfl h'))
theorem xf_iadd (hX : xf_ok X l own cc nL fr lo wf D tys) (np : Nat) (hp : pc + 1 = np) {x y : Int32} (hd : decode cc pc = .ok (.iadd, 1)) (k : xf_V X np L (.int (x + y) :: st) σ) : xf_V X pc L (.int y :: .int x :: st) σ := by
  subst hp
  obtain ⟨p, l, e, R, s, m, args, below, meth, c, A, Q, D, tys, wf, nL, cells, slots⟩ := X
  exact fun H locs ls hP hD hS hl => lv_iadd hX.2.1 hX.2.2.1 hd (k H locs ls hP hD hS hl)
theorem xf_isub (hX : xf_ok X l own cc nL fr lo wf D tys) (np : Nat) (hp : pc + 1 = np) {x y : Int32} (hd : decode cc pc = .ok (.isub, 1)) (k : xf_V X np L (.int (x - y) :: st) σ) : xf_V X pc L (.int y :: .int x :: st) σ := by
  subst hp
  obtain ⟨p, l, e, R, s, m, args, below, meth, c, A, Q, D, tys, wf, nL, cells, slots⟩ := X
  exact fun H locs ls hP hD hS hl => lv_isub hX.2.1 hX.2.2.1 hd (k H locs ls hP hD hS hl)
theorem xf_imul (hX : xf_ok X l own cc nL fr lo wf D tys) (np : Nat) (hp : pc + 1 = np) {x y : Int32} (hd : decode cc pc = .ok (.imul, 1)) (k : xf_V X np L (.int (x * y) :: st) σ) : xf_V X pc L (.int y :: .int x :: st) σ := by
  subst hp
  obtain ⟨p, l, e, R, s, m, args, below, meth, c, A, Q, D, tys, wf, nL, cells, slots⟩ := X
  exact fun H locs ls hP hD hS hl => lv_imul hX.2.1 hX.2.2.1 hd (k H locs ls hP hD hS hl)
theorem xf_iand (hX : xf_ok X l own cc nL fr lo wf D tys) (np : Nat) (hp : pc + 1 = np) {x y : Int32} (hd : decode cc pc = .ok (.iand, 1)) (k : xf_V X np L (.int (x &&& y) :: st) σ) : xf_V X pc L (.int y :: .int x :: st) σ := by
  subst hp
  obtain ⟨p, l, e, R, s, m, args, below, meth, c, A, Q, D, tys, wf, nL, cells, slots⟩ := X
  exact fun H locs ls hP hD hS hl => lv_iand hX.2.1 hX.2.2.1 hd (k H locs ls hP hD hS hl)
theorem xf_ixor (hX : xf_ok X l own cc nL fr lo wf D tys) (np : Nat) (hp : pc + 1 = np) {x y : Int32} (hd : decode cc pc = .ok (.ixor, 1)) (k : xf_V X np L (.int (x ^^^ y) :: st) σ) : xf_V X pc L (.int y :: .int x :: st) σ := by
  subst hp
  obtain ⟨p, l, e, R, s, m, args, below, meth, c, A, Q, D, tys, wf, nL, cells, slots⟩ := X
  exact fun H locs ls hP hD hS hl => lv_ixor hX.2.1 hX.2.2.1 hd (k H locs ls hP hD hS hl)
theorem xf_idiv (hX : xf_ok X l own cc nL fr lo wf D tys) (np : Nat) (hp : pc + 1 = np) {x y : Int32} (hd : decode cc pc = .ok (.idiv, 1)) (h0 : ¬ y = 0) (k : xf_V X np L (.int (x / y) :: st) σ) : xf_V X pc L (.int y :: .int x :: st) σ := by
  subst hp
  obtain ⟨p, l, e, R, s, m, args, below, meth, c, A, Q, D, tys, wf, nL, cells, slots⟩ := X
  exact fun H locs ls hP hD hS hl => lv_idiv hX.2.1 hX.2.2.1 hd h0 (k H locs ls hP hD hS hl)
theorem xf_irem (hX : xf_ok X l own cc nL fr lo wf D tys) (np : Nat) (hp : pc + 1 = np) {x y : Int32} (hd : decode cc pc = .ok (.irem, 1)) (h0 : ¬ y = 0) (k : xf_V X np L (.int (x - x / y * y) :: st) σ) : xf_V X pc L (.int y :: .int x :: st) σ := by
  subst hp
  obtain ⟨p, l, e, R, s, m, args, below, meth, c, A, Q, D, tys, wf, nL, cells, slots⟩ := X
  exact fun H locs ls hP hD hS hl => lv_irem hX.2.1 hX.2.2.1 hd h0 (k H locs ls hP hD hS hl)
theorem xf_iushr (hX : xf_ok X l own cc nL fr lo wf D tys) (np : Nat) (hp : pc + 1 = np) {x y : Int32} (hd : decode cc pc = .ok (.iushr, 1)) (k : xf_V X np L (.int (x.toUInt32 >>> (y.toUInt32 &&& Int32.toUInt32 31)).toInt32 :: st) σ) : xf_V X pc L (.int y :: .int x :: st) σ := by
  subst hp
  obtain ⟨p, l, e, R, s, m, args, below, meth, c, A, Q, D, tys, wf, nL, cells, slots⟩ := X
  exact fun H locs ls hP hD hS hl => lv_iushr hX.2.1 hX.2.2.1 hd rfl (k H locs ls hP hD hS hl)
theorem xf_dup (hX : xf_ok X l own cc nL fr lo wf D tys) (np : Nat) (hp : pc + 1 = np) {v : Value} (hd : decode cc pc = .ok (.dup, 1)) (hv : v.category = 1) (k : xf_V X np L (v :: v :: st) σ) : xf_V X pc L (v :: st) σ := by
  subst hp
  obtain ⟨p, l, e, R, s, m, args, below, meth, c, A, Q, D, tys, wf, nL, cells, slots⟩ := X
  exact fun H locs ls hP hD hS hl => lv_dup hX.2.1 hX.2.2.1 hd hv (k H locs ls hP hD hS hl)
theorem xf_dup2 (hX : xf_ok X l own cc nL fr lo wf D tys) (np : Nat) (hp : pc + 1 = np) {v u : Value} (hd : decode cc pc = .ok (.dup2, 1)) (hv : v.category = 1) (hu : u.category = 1) (k : xf_V X np L (v :: u :: v :: u :: st) σ) : xf_V X pc L (v :: u :: st) σ := by
  subst hp
  obtain ⟨p, l, e, R, s, m, args, below, meth, c, A, Q, D, tys, wf, nL, cells, slots⟩ := X
  exact fun H locs ls hP hD hS hl => lv_dup2_11 hX.2.1 hX.2.2.1 hd hv hu (k H locs ls hP hD hS hl)
theorem xf_dup_x1 (hX : xf_ok X l own cc nL fr lo wf D tys) (np : Nat) (hp : pc + 1 = np) {v u : Value} (hd : decode cc pc = .ok (.dup_x1, 1)) (hv : v.category = 1) (hu : u.category = 1) (k : xf_V X np L (v :: u :: v :: st) σ) : xf_V X pc L (v :: u :: st) σ := by
  subst hp
  obtain ⟨p, l, e, R, s, m, args, below, meth, c, A, Q, D, tys, wf, nL, cells, slots⟩ := X
  exact fun H locs ls hP hD hS hl => lv_dup_x1 hX.2.1 hX.2.2.1 hd hv hu (k H locs ls hP hD hS hl)
theorem xf_pop (hX : xf_ok X l own cc nL fr lo wf D tys) (np : Nat) (hp : pc + 1 = np) {v : Value} (hd : decode cc pc = .ok (.pop, 1)) (hv : v.category = 1) (k : xf_V X np L st σ) : xf_V X pc L (v :: st) σ := by
  subst hp
  obtain ⟨p, l, e, R, s, m, args, below, meth, c, A, Q, D, tys, wf, nL, cells, slots⟩ := X
  exact fun H locs ls hP hD hS hl => lv_pop hX.2.1 hX.2.2.1 hd hv (k H locs ls hP hD hS hl)
theorem xf_goto (hX : xf_ok X l own cc nL fr lo wf D tys) {off : Int} (tgt : Nat) (hd : decode cc pc = .ok (.goto off, 3)) (ht : (pc : Int) + off = (tgt : Int)) (k : xf_V X tgt L st σ) : xf_V X pc L st σ := by
  obtain ⟨p, l, e, R, s, m, args, below, meth, c, A, Q, D, tys, wf, nL, cells, slots⟩ := X
  exact fun H locs ls hP hD hS hl => lv_goto hX.2.1 hX.2.2.1 hd ht (k H locs ls hP hD hS hl)
theorem xf_if_eq (hX : xf_ok X l own cc nL fr lo wf D tys) (np : Nat) (hp : pc + 3 = np) {x : Int32} {off : Int} (tgt : Nat) (hd : decode cc pc = .ok (.ifCond .eq off, 3)) (ht : (pc : Int) + off = (tgt : Int)) (kt : x = 0 → xf_V X tgt L st σ) (kf : ¬ x = 0 → xf_V X np L st σ) : xf_V X pc L (.int x :: st) σ := by
  subst hp
  obtain ⟨p, l, e, R, s, m, args, below, meth, c, A, Q, D, tys, wf, nL, cells, slots⟩ := X
  exact fun H locs ls hP hD hS hl => lv_if_eq hX.2.1 hX.2.2.1 hd ht (fun h => kt h H locs ls hP hD hS hl) (fun h => kf h H locs ls hP hD hS hl)
theorem xf_icmp_eq (hX : xf_ok X l own cc nL fr lo wf D tys) (np : Nat) (hp : pc + 3 = np) {x y : Int32} {off : Int} (tgt : Nat) (hd : decode cc pc = .ok (.if_icmp .eq off, 3)) (ht : (pc : Int) + off = (tgt : Int)) (kt : x = y → xf_V X tgt L st σ) (kf : ¬ x = y → xf_V X np L st σ) : xf_V X pc L (.int y :: .int x :: st) σ := by
  subst hp
  obtain ⟨p, l, e, R, s, m, args, below, meth, c, A, Q, D, tys, wf, nL, cells, slots⟩ := X
  exact fun H locs ls hP hD hS hl => lv_icmp_eq hX.2.1 hX.2.2.1 hd ht (fun h => kt h H locs ls hP hD hS hl) (fun h => kf h H locs ls hP hD hS hl)
theorem xf_if_ne (hX : xf_ok X l own cc nL fr lo wf D tys) (np : Nat) (hp : pc + 3 = np) {x : Int32} {off : Int} (tgt : Nat) (hd : decode cc pc = .ok (.ifCond .ne off, 3)) (ht : (pc : Int) + off = (tgt : Int)) (kt : ¬ x = 0 → xf_V X tgt L st σ) (kf : x = 0 → xf_V X np L st σ) : xf_V X pc L (.int x :: st) σ := by
  subst hp
  obtain ⟨p, l, e, R, s, m, args, below, meth, c, A, Q, D, tys, wf, nL, cells, slots⟩ := X
  exact fun H locs ls hP hD hS hl => lv_if_ne hX.2.1 hX.2.2.1 hd ht (fun h => kt h H locs ls hP hD hS hl) (fun h => kf h H locs ls hP hD hS hl)
theorem xf_icmp_ne (hX : xf_ok X l own cc nL fr lo wf D tys) (np : Nat) (hp : pc + 3 = np) {x y : Int32} {off : Int} (tgt : Nat) (hd : decode cc pc = .ok (.if_icmp .ne off, 3)) (ht : (pc : Int) + off = (tgt : Int)) (kt : ¬ x = y → xf_V X tgt L st σ) (kf : x = y → xf_V X np L st σ) : xf_V X pc L (.int y :: .int x :: st) σ := by
  subst hp
  obtain ⟨p, l, e, R, s, m, args, below, meth, c, A, Q, D, tys, wf, nL, cells, slots⟩ := X
  exact fun H locs ls hP hD hS hl => lv_icmp_ne hX.2.1 hX.2.2.1 hd ht (fun h => kt h H locs ls hP hD hS hl) (fun h => kf h H locs ls hP hD hS hl)
theorem xf_if_lt (hX : xf_ok X l own cc nL fr lo wf D tys) (np : Nat) (hp : pc + 3 = np) {x : Int32} {off : Int} (tgt : Nat) (hd : decode cc pc = .ok (.ifCond .lt off, 3)) (ht : (pc : Int) + off = (tgt : Int)) (kt : x < 0 → xf_V X tgt L st σ) (kf : ¬ x < 0 → xf_V X np L st σ) : xf_V X pc L (.int x :: st) σ := by
  subst hp
  obtain ⟨p, l, e, R, s, m, args, below, meth, c, A, Q, D, tys, wf, nL, cells, slots⟩ := X
  exact fun H locs ls hP hD hS hl => lv_if_lt hX.2.1 hX.2.2.1 hd ht (fun h => kt h H locs ls hP hD hS hl) (fun h => kf h H locs ls hP hD hS hl)
theorem xf_icmp_lt (hX : xf_ok X l own cc nL fr lo wf D tys) (np : Nat) (hp : pc + 3 = np) {x y : Int32} {off : Int} (tgt : Nat) (hd : decode cc pc = .ok (.if_icmp .lt off, 3)) (ht : (pc : Int) + off = (tgt : Int)) (kt : x < y → xf_V X tgt L st σ) (kf : ¬ x < y → xf_V X np L st σ) : xf_V X pc L (.int y :: .int x :: st) σ := by
  subst hp
  obtain ⟨p, l, e, R, s, m, args, below, meth, c, A, Q, D, tys, wf, nL, cells, slots⟩ := X
  exact fun H locs ls hP hD hS hl => lv_icmp_lt hX.2.1 hX.2.2.1 hd ht (fun h => kt h H locs ls hP hD hS hl) (fun h => kf h H locs ls hP hD hS hl)
theorem xf_if_ge (hX : xf_ok X l own cc nL fr lo wf D tys) (np : Nat) (hp : pc + 3 = np) {x : Int32} {off : Int} (tgt : Nat) (hd : decode cc pc = .ok (.ifCond .ge off, 3)) (ht : (pc : Int) + off = (tgt : Int)) (kt : 0 ≤ x → xf_V X tgt L st σ) (kf : ¬ 0 ≤ x → xf_V X np L st σ) : xf_V X pc L (.int x :: st) σ := by
  subst hp
  obtain ⟨p, l, e, R, s, m, args, below, meth, c, A, Q, D, tys, wf, nL, cells, slots⟩ := X
  exact fun H locs ls hP hD hS hl => lv_if_ge hX.2.1 hX.2.2.1 hd ht (fun h => kt h H locs ls hP hD hS hl) (fun h => kf h H locs ls hP hD hS hl)
theorem xf_icmp_ge (hX : xf_ok X l own cc nL fr lo wf D tys) (np : Nat) (hp : pc + 3 = np) {x y : Int32} {off : Int} (tgt : Nat) (hd : decode cc pc = .ok (.if_icmp .ge off, 3)) (ht : (pc : Int) + off = (tgt : Int)) (kt : y ≤ x → xf_V X tgt L st σ) (kf : ¬ y ≤ x → xf_V X np L st σ) : xf_V X pc L (.int y :: .int x :: st) σ := by
  subst hp
  obtain ⟨p, l, e, R, s, m, args, below, meth, c, A, Q, D, tys, wf, nL, cells, slots⟩ := X
  exact fun H locs ls hP hD hS hl => lv_icmp_ge hX.2.1 hX.2.2.1 hd ht (fun h => kt h H locs ls hP hD hS hl) (fun h => kf h H locs ls hP hD hS hl)
theorem xf_if_gt (hX : xf_ok X l own cc nL fr lo wf D tys) (np : Nat) (hp : pc + 3 = np) {x : Int32} {off : Int} (tgt : Nat) (hd : decode cc pc = .ok (.ifCond .gt off, 3)) (ht : (pc : Int) + off = (tgt : Int)) (kt : 0 < x → xf_V X tgt L st σ) (kf : ¬ 0 < x → xf_V X np L st σ) : xf_V X pc L (.int x :: st) σ := by
  subst hp
  obtain ⟨p, l, e, R, s, m, args, below, meth, c, A, Q, D, tys, wf, nL, cells, slots⟩ := X
  exact fun H locs ls hP hD hS hl => lv_if_gt hX.2.1 hX.2.2.1 hd ht (fun h => kt h H locs ls hP hD hS hl) (fun h => kf h H locs ls hP hD hS hl)
theorem xf_icmp_gt (hX : xf_ok X l own cc nL fr lo wf D tys) (np : Nat) (hp : pc + 3 = np) {x y : Int32} {off : Int} (tgt : Nat) (hd : decode cc pc = .ok (.if_icmp .gt off, 3)) (ht : (pc : Int) + off = (tgt : Int)) (kt : y < x → xf_V X tgt L st σ) (kf : ¬ y < x → xf_V X np L st σ) : xf_V X pc L (.int y :: .int x :: st) σ := by
  subst hp
  obtain ⟨p, l, e, R, s, m, args, below, meth, c, A, Q, D, tys, wf, nL, cells, slots⟩ := X
  exact fun H locs ls hP hD hS hl => lv_icmp_gt hX.2.1 hX.2.2.1 hd ht (fun h => kt h H locs ls hP hD hS hl) (fun h => kf h H locs ls hP hD hS hl)
theorem xf_if_le (hX : xf_ok X l own cc nL fr lo wf D tys) (np : Nat) (hp : pc + 3 = np) {x : Int32} {off : Int} (tgt : Nat) (hd : decode cc pc = .ok (.ifCond .le off, 3)) (ht : (pc : Int) + off = (tgt : Int)) (kt : x ≤ 0 → xf_V X tgt L st σ) (kf : ¬ x ≤ 0 → xf_V X np L st σ) : xf_V X pc L (.int x :: st) σ := by
  subst hp
  obtain ⟨p, l, e, R, s, m, args, below, meth, c, A, Q, D, tys, wf, nL, cells, slots⟩ := X
  exact fun H locs ls hP hD hS hl => lv_if_le hX.2.1 hX.2.2.1 hd ht (fun h => kt h H locs ls hP hD hS hl) (fun h => kf h H locs ls hP hD hS hl)
theorem xf_icmp_le (hX : xf_ok X l own cc nL fr lo wf D tys) (np : Nat) (hp : pc + 3 = np) {x y : Int32} {off : Int} (tgt : Nat) (hd : decode cc pc = .ok (.if_icmp .le off, 3)) (ht : (pc : Int) + off = (tgt : Int)) (kt : x ≤ y → xf_V X tgt L st σ) (kf : ¬ x ≤ y → xf_V X np L st σ) : xf_V X pc L (.int y :: .int x :: st) σ := by
  subst hp
  obtain ⟨p, l, e, R, s, m, args, below, meth, c, A, Q, D, tys, wf, nL, cells, slots⟩ := X
  exact fun H locs ls hP hD hS hl => lv_icmp_le hX.2.1 hX.2.2.1 hd ht (fun h => kt h H locs ls hP hD hS hl) (fun h => kf h H locs ls hP hD hS hl)
theorem xf_tabOut (hX : xf_ok X l own cc nL fr lo wf D tys) {dflt lw hi : Int} {offs : Array Int} {len : Nat} {x : Int32} (tgt : Nat) (hd : decode cc pc = .ok (.tableswitch dflt lw hi offs, len)) (h : x.toInt < lw ∨ hi < x.toInt) (ht : (pc : Int) + dflt = (tgt : Int)) (k : xf_V X tgt L st σ) : xf_V X pc L (.int x :: st) σ := by
  obtain ⟨p, l, e, R, s, m, args, below, meth, c, A, Q, D, tys, wf, nL, cells, slots⟩ := X
  exact fun H locs ls hP hD hS hl => lv_tableOut hX.2.1 hX.2.2.1 hd h ht (k H locs ls hP hD hS hl)
theorem xf_tabIn (hX : xf_ok X l own cc nL fr lo wf D tys) {dflt lw hi off : Int} {offs : Array Int} {len : Nat} {x : Int32} (tgt : Nat) (hd : decode cc pc = .ok (.tableswitch dflt lw hi offs, len)) (h1 : ¬ x.toInt < lw) (h2 : ¬ hi < x.toInt) (ho : offs[(x.toInt - lw).toNat]? = some off) (ht : (pc : Int) + off = (tgt : Int)) (k : xf_V X tgt L st σ) : xf_V X pc L (.int x :: st) σ := by
  obtain ⟨p, l, e, R, s, m, args, below, meth, c, A, Q, D, tys, wf, nL, cells, slots⟩ := X
  exact fun H locs ls hP hD hS hl => lv_tableIn hX.2.1 hX.2.2.1 hd h1 h2 ho ht (k H locs ls hP hD hS hl)
/-! cells of the world -/
theorem xf_get (hX : xf_ok X l own cc nL fr lo wf D tys) (np : Nat) (hp : pc + 3 = np) {C : String} {T : u_T} {N ci idx a : Nat} (hin : ∀ w ∈ u_ws C T N, w ∈ xf_GW) (q0 : Nat) {fs : List Value} (he : (wf σ)[q0]? = some (a, .inr (ci, fs))) (hc : vwCl[ci]? = some (C, T, N)) (k : Nat) (hk : k < N) (hlink : Cond.fieldLink own idx (T k).1 (T k).2.1 (T k).2.2.1 ∈ xf_GW) {v : Value} (hv : fs[k]? = some v) (hd : decode cc pc = .ok (.getfield idx, 3)) (kk : xf_V X np L (v :: st) σ) : xf_V X pc L (.ref a :: st) σ := by
  subst hp
  obtain ⟨p, l, e, R, s, m, args, below, meth, c, A, Q, D', tys', wf', nL', cells, slots⟩ := X
  obtain ⟨⟨h1, h2, h3, h4, h5⟩, hx, hb, hml, hown, hts, hK, hN, hA, hR, -⟩ := hX
  subst h2 h3 h4 h5
  exact fun H locs ls hP hD hS hl => va_get hx hb hts hin hown hK hP q0 he hc k hk (hts _ hlink) (fun _ h9 => h9) hv hd (kk H locs ls hP hD hS hl)
theorem xf_put (hX : xf_ok X l own cc nL fr lo wf D tys) (np : Nat) (hp : pc + 3 = np) {C : String} {T : u_T} {N ci idx a : Nat} (hin : ∀ w ∈ u_ws C T N, w ∈ xf_GW) (ty0 : Nat → FieldType) (hty : ∀ k, k < N → parseFieldDescriptor (T k).2.2.1 = some (ty0 k)) (hnm : ∀ a, a < N → ∀ b, b < N → a ≠ b → (T a).2.1 ≠ (T b).2.1) (q0 : Nat) {fs : List Value} (he : (wf σ)[q0]? = some (a, .inr (ci, fs))) (hc : vwCl[ci]? = some (C, T, N)) (k : Nat) (hk : k < N) (hlink : Cond.fieldLink own idx (T k).1 (T k).2.1 (T k).2.2.1 ∈ xf_GW) (hfin : (T k).2.2.2 = false) {v : Int32} (hdsc : parseFieldDescriptor (T k).2.2.1 = some .int) (hl9 : k < fs.length) {σ' : xf_S} (hσ : (wf σ).set q0 (a, .inr (ci, fs.set k (.int v))) = wf σ') (hd : decode cc pc = .ok (.putfield idx, 3)) (kk : xf_V X np L st σ') : xf_V X pc L (.int v :: .ref a :: st) σ := by
  subst hp
  obtain ⟨p, l, e, R, s, m, args, below, meth, c, A, Q, D', tys', wf', nL', cells, slots⟩ := X
  obtain ⟨⟨h1, h2, h3, h4, h5⟩, hx, hb, hml, hown, hts, hK, hN, hA, hR, -⟩ := hX
  subst h2 h3 h4 h5
  exact fun H locs ls hP hD hS hl => va_put (v := .int v) hx hb hts hin ty0 hty hnm hown hK hP hD hS q0 he hc k hk (hts _ hlink) (fun _ h9 => h9) hfin hdsc rfl rfl hl9 hd (fun H1 locs1 hP1 hD1 hS1 => kk H1 locs1 ls (hσ ▸ hP1) (hσ ▸ hD1) hS1 hl)
theorem xf_iald (hX : xf_ok X l own cc nL fr lo wf D tys) (np : Nat) (hp : pc + 1 = np) (q0 t0 : Nat) {a : Nat} {cA : ClassId} {n : Nat} {f : Nat → Int32} (ha : (wf σ)[q0]? = some (a, .inl (cA, n, .inl f))) (ht : tys[t0]? = some (cA, .int)) {i : Int32} (hin : vp_in i n) (hd : decode cc pc = .ok (.iaload, 1)) (kk : xf_V X np L (.int (f i.toNatClampNeg) :: st) σ) : xf_V X pc L (.int i :: .ref a :: st) σ := by
  subst hp
  obtain ⟨p, l, e, R, s, m, args, below, meth, c, A, Q, D', tys', wf', nL', cells, slots⟩ := X
  obtain ⟨⟨h1, h2, h3, h4, h5⟩, hx, hb, hml, hown, hts, hK, hN, hA, hR, -⟩ := hX
  subst h2 h3 h4 h5
  exact fun H locs ls hP hD hS hl => va_iald hx hb hK hP q0 t0 ha ht hin hd (kk H locs ls hP hD hS hl)
theorem xf_zald (hX : xf_ok X l own cc nL fr lo wf D tys) (np : Nat) (hp : pc + 1 = np) (q0 t0 : Nat) {a : Nat} {cA : ClassId} {n : Nat} {f : Nat → Int32} (ha : (wf σ)[q0]? = some (a, .inl (cA, n, .inl f))) (ht : tys[t0]? = some (cA, .boolean)) {i : Int32} (hin : vp_in i n) (hd : decode cc pc = .ok (.baload, 1)) (kk : xf_V X np L (.int (f i.toNatClampNeg) :: st) σ) : xf_V X pc L (.int i :: .ref a :: st) σ := by
  subst hp
  obtain ⟨p, l, e, R, s, m, args, below, meth, c, A, Q, D', tys', wf', nL', cells, slots⟩ := X
  obtain ⟨⟨h1, h2, h3, h4, h5⟩, hx, hb, hml, hown, hts, hK, hN, hA, hR, -⟩ := hX
  subst h2 h3 h4 h5
  exact fun H locs ls hP hD hS hl => va_zald hx hb hK hP q0 t0 ha ht hin hd (kk H locs ls hP hD hS hl)
theorem xf_aald (hX : xf_ok X l own cc nL fr lo wf D tys) (np : Nat) (hp : pc + 1 = np) (q0 t0 : Nat) {a : Nat} {cA : ClassId} {C : String} {n : Nat} {f : Nat → Option Nat} (ha : (wf σ)[q0]? = some (a, .inl (cA, n, .inr (.inr (.inr (.inr f)))))) (ht : tys[t0]? = some (cA, .object C)) {i : Int32} (hin : vp_in i n) (hd : decode cc pc = .ok (.aaload, 1)) {v : Value} (hv : va_rf (f i.toNatClampNeg) = v) (kk : xf_V X np L (v :: st) σ) : xf_V X pc L (.int i :: .ref a :: st) σ := by
  subst hp
  obtain ⟨p, l, e, R, s, m, args, below, meth, c, A, Q, D', tys', wf', nL', cells, slots⟩ := X
  obtain ⟨⟨h1, h2, h3, h4, h5⟩, hx, hb, hml, hown, hts, hK, hN, hA, hR, -⟩ := hX
  subst h2 h3 h4 h5 hv
  exact fun H locs ls hP hD hS hl => va_aldq hx hb hK hP q0 t0 ha ht hin hd (kk H locs ls hP hD hS hl)
theorem xf_iast (hX : xf_ok X l own cc nL fr lo wf D tys) (np : Nat) (hp : pc + 1 = np) (q0 t0 : Nat) {a : Nat} {cA : ClassId} {n : Nat} {f : Nat → Int32} (ha : (wf σ)[q0]? = some (a, .inl (cA, n, .inl f))) (ht : tys[t0]? = some (cA, .int)) {i x : Int32} (hin : vp_in i n) (hd : decode cc pc = .ok (.iastore, 1)) {σ' : xf_S} (hσ : (wf σ).set q0 (a, .inl (cA, n, .inl (upd f i.toNatClampNeg x))) = wf σ') (kk : xf_V X np L st σ') : xf_V X pc L (.int x :: .int i :: .ref a :: st) σ := by
  subst hp
  obtain ⟨p, l, e, R, s, m, args, below, meth, c, A, Q, D', tys', wf', nL', cells, slots⟩ := X
  obtain ⟨⟨h1, h2, h3, h4, h5⟩, hx, hb, hml, hown, hts, hK, hN, hA, hR, -⟩ := hX
  subst h2 h3 h4 h5
  exact fun H locs ls hP hD hS hl => va_iast hx hb hK hP hD hS q0 t0 ha ht hin hd (fun H1 locs1 hP1 hD1 hS1 => kk H1 locs1 ls (hσ ▸ hP1) (hσ ▸ hD1) hS1 hl)
theorem xf_zast (hX : xf_ok X l own cc nL fr lo wf D tys) (np : Nat) (hp : pc + 1 = np) (q0 t0 : Nat) {a : Nat} {cA : ClassId} {n : Nat} {f : Nat → Int32} (ha : (wf σ)[q0]? = some (a, .inl (cA, n, .inl f))) (ht : tys[t0]? = some (cA, .boolean)) {i x : Int32} (hin : vp_in i n) (hx0 : vp_nar .boolean x = x) (hd : decode cc pc = .ok (.bastore, 1)) {σ' : xf_S} (hσ : (wf σ).set q0 (a, .inl (cA, n, .inl (upd f i.toNatClampNeg x))) = wf σ') (kk : xf_V X np L st σ') : xf_V X pc L (.int x :: .int i :: .ref a :: st) σ := by
  subst hp
  obtain ⟨p, l, e, R, s, m, args, below, meth, c, A, Q, D', tys', wf', nL', cells, slots⟩ := X
  obtain ⟨⟨h1, h2, h3, h4, h5⟩, hx, hb, hml, hown, hts, hK, hN, hA, hR, -⟩ := hX
  subst h2 h3 h4 h5
  exact fun H locs ls hP hD hS hl => va_zast hx hb hK hP hD hS q0 t0 ha ht hin hd (fun H1 locs1 hP1 hD1 hS1 => by rw [hx0] at hP1 hD1; exact kk H1 locs1 ls (hσ ▸ hP1) (hσ ▸ hD1) hS1 hl)
theorem xf_alen (hX : xf_ok X l own cc nL fr lo wf D tys) (np : Nat) (hp : pc + 1 = np) (q0 t0 : Nat) {a : Nat} {cA : ClassId} {x : vp_A} (ha : (wf σ)[q0]? = some (a, .inl (cA, x))) {ty : FieldType} (ht : tys[t0]? = some (cA, ty)) {v : Int32} (hv : Int32.ofNat x.1 = v) (hd : decode cc pc = .ok (.arraylength, 1)) (kk : xf_V X np L (.int v :: st) σ) : xf_V X pc L (.ref a :: st) σ := by
  subst hp
  obtain ⟨p, l, e, R, s, m, args, below, meth, c, A, Q, D', tys', wf', nL', cells, slots⟩ := X
  obtain ⟨⟨h1, h2, h3, h4, h5⟩, hx, hb, hml, hown, hts, hK, hN, hA, hR, -⟩ := hX
  subst h2 h3 h4 h5
  exact fun H locs ls hP hD hS hl => va_alen hx hb hK hP q0 t0 ha ht hv hd (kk H locs ls hP hD hS hl)
/-! ends -/
variable {r : Int32} {σ' : xf_S} {rq : Option Value → xf_S → Prop}
theorem xf_iret (hX : xf_ok X l own cc nL fr lo wf D tys) (hE : xf_end X (some .int) rq) (hd : decode cc pc = .ok (.ireturn, 1)) (h : rq (some (.int r)) σ) : xf_V X pc L [.int r] σ := by
  obtain ⟨p, l, e, R, s, m, args, below, meth, c, A, Q, D', tys', wf', nL', cells, slots⟩ := X
  obtain ⟨⟨h1, h2, h3, h4, h5⟩, hx, hb, hml, hown, hts, hK, hN, hA, hR, -⟩ := hX
  obtain ⟨hr, hlk, hQ⟩ := hE
  subst h2 h3 h4 h5 hQ
  exact fun H locs ls hP hD hS hl => W.iret hx hb hr (fun t ht hW => ⟨⟨_, σ, rfl, h, by rw [ht]; exact hP, va_K.moved hW.alike hK, hD⟩, hS.F ht⟩) hS.2.2 hd hlk
theorem xf_zret (hX : xf_ok X l own cc nL fr lo wf D tys) (hE : xf_end X (some .boolean) rq) (hd : decode cc pc = .ok (.ireturn, 1)) (hz : narrow .boolean (.int r) = .int r) (h : rq (some (.int r)) σ) : xf_V X pc L [.int r] σ := by
  obtain ⟨p, l, e, R, s, m, args, below, meth, c, A, Q, D', tys', wf', nL', cells, slots⟩ := X
  obtain ⟨⟨h1, h2, h3, h4, h5⟩, hx, hb, hml, hown, hts, hK, hN, hA, hR, -⟩ := hX
  obtain ⟨hr, hlk, hQ⟩ := hE
  subst h2 h3 h4 h5 hQ
  exact fun H locs ls hP hD hS hl => W.zret hx hb hr hz (fun t ht hW => ⟨⟨_, σ, rfl, h, by rw [ht]; exact hP, va_K.moved hW.alike hK, hD⟩, hS.F ht⟩) hS.2.2 hd hlk
theorem xf_vret (hX : xf_ok X l own cc nL fr lo wf D tys) (hE : xf_end X none rq) (hd : decode cc pc = .ok (.return_, 1)) (h : rq none σ) : xf_V X pc L [] σ := by
  obtain ⟨p, l, e, R, s, m, args, below, meth, c, A, Q, D', tys', wf', nL', cells, slots⟩ := X
  obtain ⟨⟨h1, h2, h3, h4, h5⟩, hx, hb, hml, hown, hts, hK, hN, hA, hR, -⟩ := hX
  obtain ⟨hr, hlk, hQ⟩ := hE
  subst h2 h3 h4 h5 hQ
  exact fun H locs ls hP hD hS hl => W.vret hx hb hr (fun t ht hW => ⟨⟨_, σ, rfl, h, by rw [ht]; exact hP, va_K.moved hW.alike hK, hD⟩, hS.F ht⟩) hS.2.2 hd hlk
/-! calls -/
/-- what the tables say of a callee -/
def xf_mth (y : MethodName) (cc : ByteArray) (nL : Nat) (ret : Option FieldType) (n : Nat) : Prop := Cond.code y cc nL ret ∈ xf_GW ∧ Cond.initialized y.cls ∈ xf_GW ∧ y.cls ≠ "java/lang/invoke/MethodHandle" ∧ y.cls ≠ "java/lang/invoke/VarHandle" ∧ (parseMethodDescriptor y.desc).map (fun d => d.parameters.length) = some n
def xf_sta (y : MethodName) (cc : ByteArray) (nL : Nat) (ret : Option FieldType) (n : Nat) : Prop := xf_mth y cc nL ret n ∧ Cond.static y ∈ xf_GW
def xf_vir (y : MethodName) (cc : ByteArray) (nL : Nat) (ret : Option FieldType) (n : Nat) : Prop := xf_mth y cc nL ret n ∧ Cond.instanceMethod y ∈ xf_GW ∧ Cond.selects y.cls y y ∈ xf_GW
theorem xf_blind {av : List Value} {sz : Nat} : FrameBlind (va_Pc av (fun U => U.heap.size = sz ∧ va_P D vwCl (wf σ) U.heap ∧ va_K D vwCl tys U ∧ va_D (fun _ => True) (wf σ) ∧ xf_NW U)) := by
  intro a U g mk q
  obtain ⟨q0, q1, qP, qK, qD, qN⟩ := q
  exact ⟨q0, q1, qP, va_K.moved (u := U) (U := U.calling g mk a) (Vm.Alike.refl U.vm) qK, qD, xf_NW_vm (s := U) (U := U.calling g mk a) rfl qN⟩
/-- behind any call: the world that came back -/
theorem xf_back {p : Program} {l : Launch} {e : Env} {R : Room} {s : State} {m : MethodId} {args : Array Value} {below : List Frame} {meth : Method} {c : Code} {H : Heap} {locs : List Loc} {cells slots : Nat} {Q : State → Prop} {A : Nat → Prop} {ls : Array Slot} {st0 rest : List Value} {aa : Array Value}
    (hr : va_Run p l e R s m args below meth c H locs cells slots 0 0 (F0 m pc ls st0) rest (xf_Qc D tys wf (va_A (wf σ) H.size) rq aa) (va_A (wf σ) H.size)) (hD : va_D A (wf σ)) (hS : va_S A s.heap H locs) (hA : ∀ q : Nat, s.heap.size ≤ q → A q)
    (kk : ∀ (v : Option Value) (u : xf_S), rq v u → ∀ (H1 : Heap) (locs1 : List Loc), va_P D vwCl (wf u) H1 → va_D A (wf u) → va_S A s.heap H1 locs1 → W p l e R s m args below meth c H1 locs1 cells slots Q (F0 m (pc + 3) ls (v.toList ++ rest))) : W p l e R s m args below meth c H locs cells slots Q (F0 m pc ls st0) := by
  have hF : ∀ q, va_A (wf σ) H.size q → A q := by
    intro q h
    rcases h with ⟨k, e, h⟩ | h
    · exact hD.2 k (q, e) h
    · exact hA q (Nat.le_trans hS.1 h)
  intro T hT X
  obtain ⟨v, st₀, t, T', L, h0, X', hL, e1, e2, ⟨⟨v', u, hv, hp, hP1, hK1, hD1⟩, hz, hk⟩, st⟩ := hr T hT X
  cases hv
  rw [h0] at hz hk
  obtain ⟨t2, a1, b1⟩ := kk v u hp T'.heap (locs ++ L) (by rw [e1]; exact hP1) (hD1.weaken (fun _ q _ h => hF q.1 h))
    ⟨Nat.le_trans hS.1 (by rw [e1]; exact hz), fun q h1 h2 => by rw [e1, hk q (Nat.lt_of_lt_of_le h1 hS.1) (fun z => h2 (hF q z))]; exact hS.2.1 q h1 h2, fun q hq => by
      rcases List.mem_append.mp hq with h | h
      · exact hS.2.2 q h
      · exact hF _ (hL q h)⟩ T' rfl X'
  exact ⟨t2, st t2 a1, b1⟩
variable {y : MethodName} {cc' : ByteArray} {nL' fr' lo' idx n : Nat} {ret' : Option FieldType} {rest : List Value}
theorem xf_callS (hX : xf_ok X l own cc nL fr lo wf D tys) (np : Nat) (hp : pc + 3 = np) (As : List Value) (rest : List Value) (hM : xf_M l y cc' nL' ret' fr' lo' wf D tys As σ rq) (hy : xf_sta y cc' nL' ret' n) (hl : Cond.methodLink own idx y ∈ xf_GW) (hn : As.length = n) (hst : st = As.reverse ++ rest) (hw : (rest.map fun v => v.category).sum ≤ 8) (hR : fr' + 1 ≤ fr ∧ 8 + (nL' + 11) + lo' ≤ lo) (hd : decode cc pc = .ok (.invokestatic idx, 3))
    (kk : ∀ (v : Option Value) (u : xf_S), rq v u → xf_V X np L (v.toList ++ rest) u) : xf_V X pc L st σ := by
  subst hp
  obtain ⟨p, l, e, R, s, m, args, below, meth, c, A, Q, D', tys', wf', nL0, cells, slots⟩ := X
  obtain ⟨⟨h1, h2, h3, h4, h5⟩, hx, hb, hml, hown, hts, hK, hN, hA, hR0, hc1, hc2⟩ := hX
  subst h1 h2 h3 h4 h5 hst
  obtain ⟨⟨m1, m2, m3, m4, m5⟩, m6⟩ := hy
  intro H locs ls hP hD hS hls
  have cw : CallB R s args own idx y cc' nL' ret' (.code y cc' nL' ret' :: xf_GW) { frames := fr', cells := 0, slots := 0, locals := lo' } 0 0 n :=
    callB_of n hts (xf_good m1) rfl rfl rfl (hts _ m2) (hts _ hl) ⟨m3, m4, m5⟩ (by rw [hR0.1, hR0.2]; exact hR)
  refine xf_back (rest := rest) (va_runS (nL := nL0) (Ts := xf_GW) (As := As) ⟨hx, hb, hml, hown, hts⟩ (hM H.size) ⟨cw, hts _ m6⟩ ⟨xf_blind, fun U hU hW => ⟨rfl, by rw [hU], by rw [hU]; exact hP, va_K.moved hW.alike hK, hD.weaken (fun _ _ _ _ => trivial), xf_NW_warm hW hN⟩⟩ rfl hn hls.1.1 rfl (lv_room hw) hd ⟨hc1, hc2⟩) hD hS hA (fun v u hq H1 locs1 hP1 hD1 hS1 => kk v u hq H1 locs1 ls hP1 hD1 hS1 hls)
theorem xf_callSN (hX : xf_ok X l own cc nL fr lo wf D tys) (np : Nat) (hp : pc + 3 = np) (As : List Value) (rest : List Value) (hM : xf_M l y cc' nL' ret' fr' lo' wf D tys As σ rq) (hy : xf_sta y cc' nL' ret' n) {host : String} (hl : Cond.methodLinkNest own idx y host ∈ xf_NL) (hn : As.length = n) (hst : st = As.reverse ++ rest) (hw : (rest.map fun v => v.category).sum ≤ 8) (hR : fr' + 1 ≤ fr ∧ 8 + (nL' + 11) + lo' ≤ lo) (hd : decode cc pc = .ok (.invokestatic idx, 3))
    (kk : ∀ (v : Option Value) (u : xf_S), rq v u → xf_V X np L (v.toList ++ rest) u) : xf_V X pc L st σ := by
  subst hp
  obtain ⟨p, l, e, R, s, m, args, below, meth, c, A, Q, D', tys', wf', nL0, cells, slots⟩ := X
  obtain ⟨⟨h1, h2, h3, h4, h5⟩, hx, hb, hml, hown, hts, hK, hN, hA, hR0, hc1, hc2⟩ := hX
  subst h1 h2 h3 h4 h5 hst
  obtain ⟨⟨m1, m2, m3, m4, m5⟩, m6⟩ := hy
  intro H locs ls hP hD hS hls
  have cw : va_CN R s args own idx y host cc' nL' ret' (.code y cc' nL' ret' :: xf_GW) { frames := fr', cells := 0, slots := 0, locals := lo' } 0 0 n :=
    va_cnB n hts (xf_good m1) rfl rfl rfl (hN _ hl) (hts _ m2) ⟨m3, m4, m5⟩ (by rw [hR0.1, hR0.2]; exact hR)
  refine xf_back (rest := rest) (va_runSN (nL := nL0) (Ts := xf_GW) (As := As) ⟨hx, hb, hml, hown, hts⟩ (hM H.size) ⟨cw, hts _ m6, trivial⟩ ⟨xf_blind, fun U hU hW => ⟨rfl, by rw [hU], by rw [hU]; exact hP, va_K.moved hW.alike hK, hD.weaken (fun _ _ _ _ => trivial), xf_NW_warm hW hN⟩⟩ rfl hn hls.1.1 rfl (lv_room hw) hd ⟨hc1, hc2⟩) hD hS hA (fun v u hq H1 locs1 hP1 hD1 hS1 => kk v u hq H1 locs1 ls hP1 hD1 hS1 hls)
theorem xf_callV (hX : xf_ok X l own cc nL fr lo wf D tys) (np : Nat) (hp : pc + 3 = np) {b : Nat} (As : List Value) (rest : List Value) (hM : xf_M l y cc' nL' ret' fr' lo' wf D tys (.ref b :: As) σ rq) (hy : xf_vir y cc' nL' ret' n) (hl : Cond.methodLink own idx y ∈ xf_GW) (q0 ci : Nat) {fs : List Value} {r : vw_C} (he : (wf σ)[q0]? = some (b, .inr (ci, fs))) (hc : vwCl[ci]? = some r) (hcy : r.1 = y.cls) (hn : As.length = n) (hst : st = As.reverse ++ .ref b :: rest) (hw : (rest.map fun v => v.category).sum ≤ 8) (hR : fr' + 1 ≤ fr ∧ 8 + (nL' + 11) + lo' ≤ lo) (hd : decode cc pc = .ok (.invokevirtual idx, 3))
    (kk : ∀ (v : Option Value) (u : xf_S), rq v u → xf_V X np L (v.toList ++ rest) u) : xf_V X pc L st σ := by
  subst hp
  obtain ⟨p, l, e, R, s, m, args, below, meth, c, A, Q, D', tys', wf', nL0, cells, slots⟩ := X
  obtain ⟨⟨h1, h2, h3, h4, h5⟩, hx, hb, hml, hown, hts, hK, hN, hA, hR0, hc1, hc2⟩ := hX
  subst h1 h2 h3 h4 h5 hst
  obtain ⟨⟨m1, m2, m3, m4, m5⟩, m6, m7⟩ := hy
  intro H locs ls hP hD hS hls
  have cw : CallB R s args own idx y cc' nL' ret' (.code y cc' nL' ret' :: xf_GW) { frames := fr', cells := 0, slots := 0, locals := lo' } 0 0 n :=
    callB_of n hts (xf_good m1) rfl rfl rfl (hts _ m2) (hts _ hl) ⟨m3, m4, m5⟩ (by rw [hR0.1, hR0.2]; exact hR)
  have hrc := va_recv hK hP hc he
  rw [hcy] at hrc
  refine xf_back (rest := rest) (va_runV (nL := nL0) (Ts := xf_GW) (C := y.cls) (b := b) (As := As) ⟨hx, hb, hml, hown, hts⟩ (hM H.size) ⟨cw, hts _ m6, hts _ m7⟩ ⟨xf_blind, hrc, fun U hU hW => ⟨rfl, by rw [hU], by rw [hU]; exact hP, va_K.moved hW.alike hK, hD.weaken (fun _ _ _ _ => trivial), xf_NW_warm hW hN⟩⟩ rfl hn hls.1.1 rfl (lv_room hw) hd ⟨hc1, hc2⟩) hD hS hA (fun v u hq H1 locs1 hP1 hD1 hS1 => kk v u hq H1 locs1 ls hP1 hD1 hS1 hls)
theorem xf_callVN (hX : xf_ok X l own cc nL fr lo wf D tys) (np : Nat) (hp : pc + 3 = np) {b : Nat} (As : List Value) (rest : List Value) (hM : xf_M l y cc' nL' ret' fr' lo' wf D tys (.ref b :: As) σ rq) (hy : xf_vir y cc' nL' ret' n) {host : String} (hl : Cond.methodLinkNest own idx y host ∈ xf_NL) (q0 ci : Nat) {fs : List Value} {r : vw_C} (he : (wf σ)[q0]? = some (b, .inr (ci, fs))) (hc : vwCl[ci]? = some r) (hcy : r.1 = y.cls) (hn : As.length = n) (hst : st = As.reverse ++ .ref b :: rest) (hw : (rest.map fun v => v.category).sum ≤ 8) (hR : fr' + 1 ≤ fr ∧ 8 + (nL' + 11) + lo' ≤ lo) (hd : decode cc pc = .ok (.invokevirtual idx, 3))
    (kk : ∀ (v : Option Value) (u : xf_S), rq v u → xf_V X np L (v.toList ++ rest) u) : xf_V X pc L st σ := by
  subst hp
  obtain ⟨p, l, e, R, s, m, args, below, meth, c, A, Q, D', tys', wf', nL0, cells, slots⟩ := X
  obtain ⟨⟨h1, h2, h3, h4, h5⟩, hx, hb, hml, hown, hts, hK, hN, hA, hR0, hc1, hc2⟩ := hX
  subst h1 h2 h3 h4 h5 hst
  obtain ⟨⟨m1, m2, m3, m4, m5⟩, m6, m7⟩ := hy
  intro H locs ls hP hD hS hls
  have cw : va_CN R s args own idx y host cc' nL' ret' (.code y cc' nL' ret' :: xf_GW) { frames := fr', cells := 0, slots := 0, locals := lo' } 0 0 n :=
    va_cnB n hts (xf_good m1) rfl rfl rfl (hN _ hl) (hts _ m2) ⟨m3, m4, m5⟩ (by rw [hR0.1, hR0.2]; exact hR)
  have hrc := va_recv hK hP hc he
  rw [hcy] at hrc
  refine xf_back (rest := rest) (va_runVN (nL := nL0) (Ts := xf_GW) (C := y.cls) (b := b) (As := As) ⟨hx, hb, hml, hown, hts⟩ (hM H.size) ⟨cw, hts _ m6, hts _ m7⟩ ⟨xf_blind, hrc, fun U hU hW => ⟨rfl, by rw [hU], by rw [hU]; exact hP, va_K.moved hW.alike hK, hD.weaken (fun _ _ _ _ => trivial), xf_NW_warm hW hN⟩⟩ rfl hn hls.1.1 rfl (lv_room hw) hd ⟨hc1, hc2⟩) hD hS hA (fun v u hq H1 locs1 hP1 hD1 hS1 => kk v u hq H1 locs1 ls hP1 hD1 hS1 hls)
end XFR
end
section
def xf_rcv (wf : xf_S → va_W) (σ : xf_S) (b : Nat) (C : String) : Prop := ∃ (q0 ci : Nat) (fs : List Value) (r : vw_C), (wf σ)[q0]? = some (b, .inr (ci, fs)) ∧ vwCl[ci]? = some r ∧ r.1 = C
section XFW
variable {X : xf_C} {l : Launch} {own : String} {cc : ByteArray} {nL fr lo : Nat} {wf : xf_S → va_W} {D : va_G} {tys : List (ClassId × FieldType)} {pc : Nat} {L : List (Option Value)} {st : List Value} {σ : xf_S}
variable {r : Int32} {σ' : xf_S} {y : MethodName} {cc' : ByteArray} {nL' fr' lo' idx : Nat} {ret' : Option FieldType} {rest : List Value} {rq : Option Value → xf_S → Prop} {b : Nat}
theorem xf_ble {a b c d : Nat} (h : (Nat.ble a b && Nat.ble c d) = true) : a ≤ b ∧ c ≤ d := by
  rw [Bool.and_eq_true] at h
  exact ⟨Nat.le_of_ble_eq_true h.1, Nat.le_of_ble_eq_true h.2⟩
theorem xf_S0i (hX : xf_ok X l own cc nL fr lo wf D tys) (np : Nat) (hp : pc + 3 = np) (hM : xf_F l y cc' nL' ret' fr' lo' wf D tys [] σ (some (.int r)) σ') (hy : xf_sta y cc' nL' ret' 0) (hl : Cond.methodLink own idx y ∈ xf_GW) (hw : Nat.ble ((rest.map fun v => v.category).sum) 8 = true) (hR : (Nat.ble (fr' + 1) fr && Nat.ble (8 + (nL' + 11) + lo') lo) = true) (hd : decode cc pc = .ok (.invokestatic idx, 3)) (kk : xf_V X np L (.int r :: rest) σ') : xf_V X pc L rest σ := by
  exact xf_callS hX np hp [] rest hM hy hl rfl rfl (Nat.le_of_ble_eq_true hw) (xf_ble hR) hd (fun v u h => by obtain ⟨rfl, rfl⟩ := h; exact kk)
theorem xf_S0v (hX : xf_ok X l own cc nL fr lo wf D tys) (np : Nat) (hp : pc + 3 = np) (hM : xf_F l y cc' nL' ret' fr' lo' wf D tys [] σ none σ') (hy : xf_sta y cc' nL' ret' 0) (hl : Cond.methodLink own idx y ∈ xf_GW) (hw : Nat.ble ((rest.map fun v => v.category).sum) 8 = true) (hR : (Nat.ble (fr' + 1) fr && Nat.ble (8 + (nL' + 11) + lo') lo) = true) (hd : decode cc pc = .ok (.invokestatic idx, 3)) (kk : xf_V X np L rest σ') : xf_V X pc L rest σ := by
  exact xf_callS hX np hp [] rest hM hy hl rfl rfl (Nat.le_of_ble_eq_true hw) (xf_ble hR) hd (fun v u h => by obtain ⟨rfl, rfl⟩ := h; exact kk)
theorem xf_S0r (hX : xf_ok X l own cc nL fr lo wf D tys) (np : Nat) (hp : pc + 3 = np) (hM : xf_M l y cc' nL' ret' fr' lo' wf D tys [] σ rq) (hy : xf_sta y cc' nL' ret' 0) (hl : Cond.methodLink own idx y ∈ xf_GW) (hw : Nat.ble ((rest.map fun v => v.category).sum) 8 = true) (hR : (Nat.ble (fr' + 1) fr && Nat.ble (8 + (nL' + 11) + lo') lo) = true) (hd : decode cc pc = .ok (.invokestatic idx, 3)) (kk : ∀ (v : Option Value) (u : xf_S), rq v u → xf_V X np L (v.toList ++ rest) u) : xf_V X pc L rest σ := by
  exact xf_callS hX np hp [] rest hM hy hl rfl rfl (Nat.le_of_ble_eq_true hw) (xf_ble hR) hd kk
theorem xf_T0i (hX : xf_ok X l own cc nL fr lo wf D tys) (np : Nat) (hp : pc + 3 = np) (hM : xf_F l y cc' nL' ret' fr' lo' wf D tys [] σ (some (.int r)) σ') (hy : xf_sta y cc' nL' ret' 0) {host : String} (hl : Cond.methodLinkNest own idx y host ∈ xf_NL) (hw : Nat.ble ((rest.map fun v => v.category).sum) 8 = true) (hR : (Nat.ble (fr' + 1) fr && Nat.ble (8 + (nL' + 11) + lo') lo) = true) (hd : decode cc pc = .ok (.invokestatic idx, 3)) (kk : xf_V X np L (.int r :: rest) σ') : xf_V X pc L rest σ := by
  exact xf_callSN hX np hp [] rest hM hy hl rfl rfl (Nat.le_of_ble_eq_true hw) (xf_ble hR) hd (fun v u h => by obtain ⟨rfl, rfl⟩ := h; exact kk)
theorem xf_T0v (hX : xf_ok X l own cc nL fr lo wf D tys) (np : Nat) (hp : pc + 3 = np) (hM : xf_F l y cc' nL' ret' fr' lo' wf D tys [] σ none σ') (hy : xf_sta y cc' nL' ret' 0) {host : String} (hl : Cond.methodLinkNest own idx y host ∈ xf_NL) (hw : Nat.ble ((rest.map fun v => v.category).sum) 8 = true) (hR : (Nat.ble (fr' + 1) fr && Nat.ble (8 + (nL' + 11) + lo') lo) = true) (hd : decode cc pc = .ok (.invokestatic idx, 3)) (kk : xf_V X np L rest σ') : xf_V X pc L rest σ := by
  exact xf_callSN hX np hp [] rest hM hy hl rfl rfl (Nat.le_of_ble_eq_true hw) (xf_ble hR) hd (fun v u h => by obtain ⟨rfl, rfl⟩ := h; exact kk)
theorem xf_T0r (hX : xf_ok X l own cc nL fr lo wf D tys) (np : Nat) (hp : pc + 3 = np) (hM : xf_M l y cc' nL' ret' fr' lo' wf D tys [] σ rq) (hy : xf_sta y cc' nL' ret' 0) {host : String} (hl : Cond.methodLinkNest own idx y host ∈ xf_NL) (hw : Nat.ble ((rest.map fun v => v.category).sum) 8 = true) (hR : (Nat.ble (fr' + 1) fr && Nat.ble (8 + (nL' + 11) + lo') lo) = true) (hd : decode cc pc = .ok (.invokestatic idx, 3)) (kk : ∀ (v : Option Value) (u : xf_S), rq v u → xf_V X np L (v.toList ++ rest) u) : xf_V X pc L rest σ := by
  exact xf_callSN hX np hp [] rest hM hy hl rfl rfl (Nat.le_of_ble_eq_true hw) (xf_ble hR) hd kk
theorem xf_V0i (hX : xf_ok X l own cc nL fr lo wf D tys) (np : Nat) (hp : pc + 3 = np) (hM : xf_F l y cc' nL' ret' fr' lo' wf D tys [.ref b] σ (some (.int r)) σ') (hy : xf_vir y cc' nL' ret' 0) (hl : Cond.methodLink own idx y ∈ xf_GW) (hrc : xf_rcv wf σ b y.cls) (hw : Nat.ble ((rest.map fun v => v.category).sum) 8 = true) (hR : (Nat.ble (fr' + 1) fr && Nat.ble (8 + (nL' + 11) + lo') lo) = true) (hd : decode cc pc = .ok (.invokevirtual idx, 3)) (kk : xf_V X np L (.int r :: rest) σ') : xf_V X pc L (.ref b :: rest) σ := by
  obtain ⟨q0, ci, fs, r0, e1, e2, e3⟩ := hrc
  exact xf_callV hX np hp [] rest hM hy hl q0 ci e1 e2 e3 rfl rfl (Nat.le_of_ble_eq_true hw) (xf_ble hR) hd (fun v u h => by obtain ⟨rfl, rfl⟩ := h; exact kk)
theorem xf_V0v (hX : xf_ok X l own cc nL fr lo wf D tys) (np : Nat) (hp : pc + 3 = np) (hM : xf_F l y cc' nL' ret' fr' lo' wf D tys [.ref b] σ none σ') (hy : xf_vir y cc' nL' ret' 0) (hl : Cond.methodLink own idx y ∈ xf_GW) (hrc : xf_rcv wf σ b y.cls) (hw : Nat.ble ((rest.map fun v => v.category).sum) 8 = true) (hR : (Nat.ble (fr' + 1) fr && Nat.ble (8 + (nL' + 11) + lo') lo) = true) (hd : decode cc pc = .ok (.invokevirtual idx, 3)) (kk : xf_V X np L rest σ') : xf_V X pc L (.ref b :: rest) σ := by
  obtain ⟨q0, ci, fs, r0, e1, e2, e3⟩ := hrc
  exact xf_callV hX np hp [] rest hM hy hl q0 ci e1 e2 e3 rfl rfl (Nat.le_of_ble_eq_true hw) (xf_ble hR) hd (fun v u h => by obtain ⟨rfl, rfl⟩ := h; exact kk)
theorem xf_V0r (hX : xf_ok X l own cc nL fr lo wf D tys) (np : Nat) (hp : pc + 3 = np) (hM : xf_M l y cc' nL' ret' fr' lo' wf D tys [.ref b] σ rq) (hy : xf_vir y cc' nL' ret' 0) (hl : Cond.methodLink own idx y ∈ xf_GW) (hrc : xf_rcv wf σ b y.cls) (hw : Nat.ble ((rest.map fun v => v.category).sum) 8 = true) (hR : (Nat.ble (fr' + 1) fr && Nat.ble (8 + (nL' + 11) + lo') lo) = true) (hd : decode cc pc = .ok (.invokevirtual idx, 3)) (kk : ∀ (v : Option Value) (u : xf_S), rq v u → xf_V X np L (v.toList ++ rest) u) : xf_V X pc L (.ref b :: rest) σ := by
  obtain ⟨q0, ci, fs, r0, e1, e2, e3⟩ := hrc
  exact xf_callV hX np hp [] rest hM hy hl q0 ci e1 e2 e3 rfl rfl (Nat.le_of_ble_eq_true hw) (xf_ble hR) hd kk
theorem xf_U0i (hX : xf_ok X l own cc nL fr lo wf D tys) (np : Nat) (hp : pc + 3 = np) (hM : xf_F l y cc' nL' ret' fr' lo' wf D tys [.ref b] σ (some (.int r)) σ') (hy : xf_vir y cc' nL' ret' 0) {host : String} (hl : Cond.methodLinkNest own idx y host ∈ xf_NL) (hrc : xf_rcv wf σ b y.cls) (hw : Nat.ble ((rest.map fun v => v.category).sum) 8 = true) (hR : (Nat.ble (fr' + 1) fr && Nat.ble (8 + (nL' + 11) + lo') lo) = true) (hd : decode cc pc = .ok (.invokevirtual idx, 3)) (kk : xf_V X np L (.int r :: rest) σ') : xf_V X pc L (.ref b :: rest) σ := by
  obtain ⟨q0, ci, fs, r0, e1, e2, e3⟩ := hrc
  exact xf_callVN hX np hp [] rest hM hy hl q0 ci e1 e2 e3 rfl rfl (Nat.le_of_ble_eq_true hw) (xf_ble hR) hd (fun v u h => by obtain ⟨rfl, rfl⟩ := h; exact kk)
theorem xf_U0v (hX : xf_ok X l own cc nL fr lo wf D tys) (np : Nat) (hp : pc + 3 = np) (hM : xf_F l y cc' nL' ret' fr' lo' wf D tys [.ref b] σ none σ') (hy : xf_vir y cc' nL' ret' 0) {host : String} (hl : Cond.methodLinkNest own idx y host ∈ xf_NL) (hrc : xf_rcv wf σ b y.cls) (hw : Nat.ble ((rest.map fun v => v.category).sum) 8 = true) (hR : (Nat.ble (fr' + 1) fr && Nat.ble (8 + (nL' + 11) + lo') lo) = true) (hd : decode cc pc = .ok (.invokevirtual idx, 3)) (kk : xf_V X np L rest σ') : xf_V X pc L (.ref b :: rest) σ := by
  obtain ⟨q0, ci, fs, r0, e1, e2, e3⟩ := hrc
  exact xf_callVN hX np hp [] rest hM hy hl q0 ci e1 e2 e3 rfl rfl (Nat.le_of_ble_eq_true hw) (xf_ble hR) hd (fun v u h => by obtain ⟨rfl, rfl⟩ := h; exact kk)
theorem xf_U0r (hX : xf_ok X l own cc nL fr lo wf D tys) (np : Nat) (hp : pc + 3 = np) (hM : xf_M l y cc' nL' ret' fr' lo' wf D tys [.ref b] σ rq) (hy : xf_vir y cc' nL' ret' 0) {host : String} (hl : Cond.methodLinkNest own idx y host ∈ xf_NL) (hrc : xf_rcv wf σ b y.cls) (hw : Nat.ble ((rest.map fun v => v.category).sum) 8 = true) (hR : (Nat.ble (fr' + 1) fr && Nat.ble (8 + (nL' + 11) + lo') lo) = true) (hd : decode cc pc = .ok (.invokevirtual idx, 3)) (kk : ∀ (v : Option Value) (u : xf_S), rq v u → xf_V X np L (v.toList ++ rest) u) : xf_V X pc L (.ref b :: rest) σ := by
  obtain ⟨q0, ci, fs, r0, e1, e2, e3⟩ := hrc
  exact xf_callVN hX np hp [] rest hM hy hl q0 ci e1 e2 e3 rfl rfl (Nat.le_of_ble_eq_true hw) (xf_ble hR) hd kk
theorem xf_S1i (hX : xf_ok X l own cc nL fr lo wf D tys) (np : Nat) (hp : pc + 3 = np) {v1 : Value} (hM : xf_F l y cc' nL' ret' fr' lo' wf D tys [v1] σ (some (.int r)) σ') (hy : xf_sta y cc' nL' ret' 1) (hl : Cond.methodLink own idx y ∈ xf_GW) (hw : Nat.ble ((rest.map fun v => v.category).sum) 8 = true) (hR : (Nat.ble (fr' + 1) fr && Nat.ble (8 + (nL' + 11) + lo') lo) = true) (hd : decode cc pc = .ok (.invokestatic idx, 3)) (kk : xf_V X np L (.int r :: rest) σ') : xf_V X pc L (v1 :: rest) σ := by
  exact xf_callS hX np hp [v1] rest hM hy hl rfl rfl (Nat.le_of_ble_eq_true hw) (xf_ble hR) hd (fun v u h => by obtain ⟨rfl, rfl⟩ := h; exact kk)
theorem xf_S1v (hX : xf_ok X l own cc nL fr lo wf D tys) (np : Nat) (hp : pc + 3 = np) {v1 : Value} (hM : xf_F l y cc' nL' ret' fr' lo' wf D tys [v1] σ none σ') (hy : xf_sta y cc' nL' ret' 1) (hl : Cond.methodLink own idx y ∈ xf_GW) (hw : Nat.ble ((rest.map fun v => v.category).sum) 8 = true) (hR : (Nat.ble (fr' + 1) fr && Nat.ble (8 + (nL' + 11) + lo') lo) = true) (hd : decode cc pc = .ok (.invokestatic idx, 3)) (kk : xf_V X np L rest σ') : xf_V X pc L (v1 :: rest) σ := by
  exact xf_callS hX np hp [v1] rest hM hy hl rfl rfl (Nat.le_of_ble_eq_true hw) (xf_ble hR) hd (fun v u h => by obtain ⟨rfl, rfl⟩ := h; exact kk)
theorem xf_S1r (hX : xf_ok X l own cc nL fr lo wf D tys) (np : Nat) (hp : pc + 3 = np) {v1 : Value} (hM : xf_M l y cc' nL' ret' fr' lo' wf D tys [v1] σ rq) (hy : xf_sta y cc' nL' ret' 1) (hl : Cond.methodLink own idx y ∈ xf_GW) (hw : Nat.ble ((rest.map fun v => v.category).sum) 8 = true) (hR : (Nat.ble (fr' + 1) fr && Nat.ble (8 + (nL' + 11) + lo') lo) = true) (hd : decode cc pc = .ok (.invokestatic idx, 3)) (kk : ∀ (v : Option Value) (u : xf_S), rq v u → xf_V X np L (v.toList ++ rest) u) : xf_V X pc L (v1 :: rest) σ := by
  exact xf_callS hX np hp [v1] rest hM hy hl rfl rfl (Nat.le_of_ble_eq_true hw) (xf_ble hR) hd kk
theorem xf_T1i (hX : xf_ok X l own cc nL fr lo wf D tys) (np : Nat) (hp : pc + 3 = np) {v1 : Value} (hM : xf_F l y cc' nL' ret' fr' lo' wf D tys [v1] σ (some (.int r)) σ') (hy : xf_sta y cc' nL' ret' 1) {host : String} (hl : Cond.methodLinkNest own idx y host ∈ xf_NL) (hw : Nat.ble ((rest.map fun v => v.category).sum) 8 = true) (hR : (Nat.ble (fr' + 1) fr && Nat.ble (8 + (nL' + 11) + lo') lo) = true) (hd : decode cc pc = .ok (.invokestatic idx, 3)) (kk : xf_V X np L (.int r :: rest) σ') : xf_V X pc L (v1 :: rest) σ := by
  exact xf_callSN hX np hp [v1] rest hM hy hl rfl rfl (Nat.le_of_ble_eq_true hw) (xf_ble hR) hd (fun v u h => by obtain ⟨rfl, rfl⟩ := h; exact kk)
theorem xf_T1v (hX : xf_ok X l own cc nL fr lo wf D tys) (np : Nat) (hp : pc + 3 = np) {v1 : Value} (hM : xf_F l y cc' nL' ret' fr' lo' wf D tys [v1] σ none σ') (hy : xf_sta y cc' nL' ret' 1) {host : String} (hl : Cond.methodLinkNest own idx y host ∈ xf_NL) (hw : Nat.ble ((rest.map fun v => v.category).sum) 8 = true) (hR : (Nat.ble (fr' + 1) fr && Nat.ble (8 + (nL' + 11) + lo') lo) = true) (hd : decode cc pc = .ok (.invokestatic idx, 3)) (kk : xf_V X np L rest σ') : xf_V X pc L (v1 :: rest) σ := by
  exact xf_callSN hX np hp [v1] rest hM hy hl rfl rfl (Nat.le_of_ble_eq_true hw) (xf_ble hR) hd (fun v u h => by obtain ⟨rfl, rfl⟩ := h; exact kk)
theorem xf_T1r (hX : xf_ok X l own cc nL fr lo wf D tys) (np : Nat) (hp : pc + 3 = np) {v1 : Value} (hM : xf_M l y cc' nL' ret' fr' lo' wf D tys [v1] σ rq) (hy : xf_sta y cc' nL' ret' 1) {host : String} (hl : Cond.methodLinkNest own idx y host ∈ xf_NL) (hw : Nat.ble ((rest.map fun v => v.category).sum) 8 = true) (hR : (Nat.ble (fr' + 1) fr && Nat.ble (8 + (nL' + 11) + lo') lo) = true) (hd : decode cc pc = .ok (.invokestatic idx, 3)) (kk : ∀ (v : Option Value) (u : xf_S), rq v u → xf_V X np L (v.toList ++ rest) u) : xf_V X pc L (v1 :: rest) σ := by
  exact xf_callSN hX np hp [v1] rest hM hy hl rfl rfl (Nat.le_of_ble_eq_true hw) (xf_ble hR) hd kk
theorem xf_V1i (hX : xf_ok X l own cc nL fr lo wf D tys) (np : Nat) (hp : pc + 3 = np) {v1 : Value} (hM : xf_F l y cc' nL' ret' fr' lo' wf D tys [.ref b, v1] σ (some (.int r)) σ') (hy : xf_vir y cc' nL' ret' 1) (hl : Cond.methodLink own idx y ∈ xf_GW) (hrc : xf_rcv wf σ b y.cls) (hw : Nat.ble ((rest.map fun v => v.category).sum) 8 = true) (hR : (Nat.ble (fr' + 1) fr && Nat.ble (8 + (nL' + 11) + lo') lo) = true) (hd : decode cc pc = .ok (.invokevirtual idx, 3)) (kk : xf_V X np L (.int r :: rest) σ') : xf_V X pc L (v1 :: .ref b :: rest) σ := by
  obtain ⟨q0, ci, fs, r0, e1, e2, e3⟩ := hrc
  exact xf_callV hX np hp [v1] rest hM hy hl q0 ci e1 e2 e3 rfl rfl (Nat.le_of_ble_eq_true hw) (xf_ble hR) hd (fun v u h => by obtain ⟨rfl, rfl⟩ := h; exact kk)
theorem xf_V1v (hX : xf_ok X l own cc nL fr lo wf D tys) (np : Nat) (hp : pc + 3 = np) {v1 : Value} (hM : xf_F l y cc' nL' ret' fr' lo' wf D tys [.ref b, v1] σ none σ') (hy : xf_vir y cc' nL' ret' 1) (hl : Cond.methodLink own idx y ∈ xf_GW) (hrc : xf_rcv wf σ b y.cls) (hw : Nat.ble ((rest.map fun v => v.category).sum) 8 = true) (hR : (Nat.ble (fr' + 1) fr && Nat.ble (8 + (nL' + 11) + lo') lo) = true) (hd : decode cc pc = .ok (.invokevirtual idx, 3)) (kk : xf_V X np L rest σ') : xf_V X pc L (v1 :: .ref b :: rest) σ := by
  obtain ⟨q0, ci, fs, r0, e1, e2, e3⟩ := hrc
  exact xf_callV hX np hp [v1] rest hM hy hl q0 ci e1 e2 e3 rfl rfl (Nat.le_of_ble_eq_true hw) (xf_ble hR) hd (fun v u h => by obtain ⟨rfl, rfl⟩ := h; exact kk)
theorem xf_V1r (hX : xf_ok X l own cc nL fr lo wf D tys) (np : Nat) (hp : pc + 3 = np) {v1 : Value} (hM : xf_M l y cc' nL' ret' fr' lo' wf D tys [.ref b, v1] σ rq) (hy : xf_vir y cc' nL' ret' 1) (hl : Cond.methodLink own idx y ∈ xf_GW) (hrc : xf_rcv wf σ b y.cls) (hw : Nat.ble ((rest.map fun v => v.category).sum) 8 = true) (hR : (Nat.ble (fr' + 1) fr && Nat.ble (8 + (nL' + 11) + lo') lo) = true) (hd : decode cc pc = .ok (.invokevirtual idx, 3)) (kk : ∀ (v : Option Value) (u : xf_S), rq v u → xf_V X np L (v.toList ++ rest) u) : xf_V X pc L (v1 :: .ref b :: rest) σ := by
  obtain ⟨q0, ci, fs, r0, e1, e2, e3⟩ := hrc
  exact xf_callV hX np hp [v1] rest hM hy hl q0 ci e1 e2 e3 rfl rfl (Nat.le_of_ble_eq_true hw) (xf_ble hR) hd kk
theorem xf_U1i (hX : xf_ok X l own cc nL fr lo wf D tys) (np : Nat) (hp : pc + 3 = np) {v1 : Value} (hM : xf_F l y cc' nL' ret' fr' lo' wf D tys [.ref b, v1] σ (some (.int r)) σ') (hy : xf_vir y cc' nL' ret' 1) {host : String} (hl : Cond.methodLinkNest own idx y host ∈ xf_NL) (hrc : xf_rcv wf σ b y.cls) (hw : Nat.ble ((rest.map fun v => v.category).sum) 8 = true) (hR : (Nat.ble (fr' + 1) fr && Nat.ble (8 + (nL' + 11) + lo') lo) = true) (hd : decode cc pc = .ok (.invokevirtual idx, 3)) (kk : xf_V X np L (.int r :: rest) σ') : xf_V X pc L (v1 :: .ref b :: rest) σ := by
  obtain ⟨q0, ci, fs, r0, e1, e2, e3⟩ := hrc
  exact xf_callVN hX np hp [v1] rest hM hy hl q0 ci e1 e2 e3 rfl rfl (Nat.le_of_ble_eq_true hw) (xf_ble hR) hd (fun v u h => by obtain ⟨rfl, rfl⟩ := h; exact kk)
theorem xf_U1v (hX : xf_ok X l own cc nL fr lo wf D tys) (np : Nat) (hp : pc + 3 = np) {v1 : Value} (hM : xf_F l y cc' nL' ret' fr' lo' wf D tys [.ref b, v1] σ none σ') (hy : xf_vir y cc' nL' ret' 1) {host : String} (hl : Cond.methodLinkNest own idx y host ∈ xf_NL) (hrc : xf_rcv wf σ b y.cls) (hw : Nat.ble ((rest.map fun v => v.category).sum) 8 = true) (hR : (Nat.ble (fr' + 1) fr && Nat.ble (8 + (nL' + 11) + lo') lo) = true) (hd : decode cc pc = .ok (.invokevirtual idx, 3)) (kk : xf_V X np L rest σ') : xf_V X pc L (v1 :: .ref b :: rest) σ := by
  obtain ⟨q0, ci, fs, r0, e1, e2, e3⟩ := hrc
  exact xf_callVN hX np hp [v1] rest hM hy hl q0 ci e1 e2 e3 rfl rfl (Nat.le_of_ble_eq_true hw) (xf_ble hR) hd (fun v u h => by obtain ⟨rfl, rfl⟩ := h; exact kk)
theorem xf_U1r (hX : xf_ok X l own cc nL fr lo wf D tys) (np : Nat) (hp : pc + 3 = np) {v1 : Value} (hM : xf_M l y cc' nL' ret' fr' lo' wf D tys [.ref b, v1] σ rq) (hy : xf_vir y cc' nL' ret' 1) {host : String} (hl : Cond.methodLinkNest own idx y host ∈ xf_NL) (hrc : xf_rcv wf σ b y.cls) (hw : Nat.ble ((rest.map fun v => v.category).sum) 8 = true) (hR : (Nat.ble (fr' + 1) fr && Nat.ble (8 + (nL' + 11) + lo') lo) = true) (hd : decode cc pc = .ok (.invokevirtual idx, 3)) (kk : ∀ (v : Option Value) (u : xf_S), rq v u → xf_V X np L (v.toList ++ rest) u) : xf_V X pc L (v1 :: .ref b :: rest) σ := by
  obtain ⟨q0, ci, fs, r0, e1, e2, e3⟩ := hrc
  exact xf_callVN hX np hp [v1] rest hM hy hl q0 ci e1 e2 e3 rfl rfl (Nat.le_of_ble_eq_true hw) (xf_ble hR) hd kk
theorem xf_S2i (hX : xf_ok X l own cc nL fr lo wf D tys) (np : Nat) (hp : pc + 3 = np) {v1 v2 : Value} (hM : xf_F l y cc' nL' ret' fr' lo' wf D tys [v1, v2] σ (some (.int r)) σ') (hy : xf_sta y cc' nL' ret' 2) (hl : Cond.methodLink own idx y ∈ xf_GW) (hw : Nat.ble ((rest.map fun v => v.category).sum) 8 = true) (hR : (Nat.ble (fr' + 1) fr && Nat.ble (8 + (nL' + 11) + lo') lo) = true) (hd : decode cc pc = .ok (.invokestatic idx, 3)) (kk : xf_V X np L (.int r :: rest) σ') : xf_V X pc L (v2 :: v1 :: rest) σ := by
  exact xf_callS hX np hp [v1, v2] rest hM hy hl rfl rfl (Nat.le_of_ble_eq_true hw) (xf_ble hR) hd (fun v u h => by obtain ⟨rfl, rfl⟩ := h; exact kk)
theorem xf_S2v (hX : xf_ok X l own cc nL fr lo wf D tys) (np : Nat) (hp : pc + 3 = np) {v1 v2 : Value} (hM : xf_F l y cc' nL' ret' fr' lo' wf D tys [v1, v2] σ none σ') (hy : xf_sta y cc' nL' ret' 2) (hl : Cond.methodLink own idx y ∈ xf_GW) (hw : Nat.ble ((rest.map fun v => v.category).sum) 8 = true) (hR : (Nat.ble (fr' + 1) fr && Nat.ble (8 + (nL' + 11) + lo') lo) = true) (hd : decode cc pc = .ok (.invokestatic idx, 3)) (kk : xf_V X np L rest σ') : xf_V X pc L (v2 :: v1 :: rest) σ := by
  exact xf_callS hX np hp [v1, v2] rest hM hy hl rfl rfl (Nat.le_of_ble_eq_true hw) (xf_ble hR) hd (fun v u h => by obtain ⟨rfl, rfl⟩ := h; exact kk)
theorem xf_S2r (hX : xf_ok X l own cc nL fr lo wf D tys) (np : Nat) (hp : pc + 3 = np) {v1 v2 : Value} (hM : xf_M l y cc' nL' ret' fr' lo' wf D tys [v1, v2] σ rq) (hy : xf_sta y cc' nL' ret' 2) (hl : Cond.methodLink own idx y ∈ xf_GW) (hw : Nat.ble ((rest.map fun v => v.category).sum) 8 = true) (hR : (Nat.ble (fr' + 1) fr && Nat.ble (8 + (nL' + 11) + lo') lo) = true) (hd : decode cc pc = .ok (.invokestatic idx, 3)) (kk : ∀ (v : Option Value) (u : xf_S), rq v u → xf_V X np L (v.toList ++ rest) u) : xf_V X pc L (v2 :: v1 :: rest) σ := by
  exact xf_callS hX np hp [v1, v2] rest hM hy hl rfl rfl (Nat.le_of_ble_eq_true hw) (xf_ble hR) hd kk
theorem xf_T2i (hX : xf_ok X l own cc nL fr lo wf D tys) (np : Nat) (hp : pc + 3 = np) {v1 v2 : Value} (hM : xf_F l y cc' nL' ret' fr' lo' wf D tys [v1, v2] σ (some (.int r)) σ') (hy : xf_sta y cc' nL' ret' 2) {host : String} (hl : Cond.methodLinkNest own idx y host ∈ xf_NL) (hw : Nat.ble ((rest.map fun v => v.category).sum) 8 = true) (hR : (Nat.ble (fr' + 1) fr && Nat.ble (8 + (nL' + 11) + lo') lo) = true) (hd : decode cc pc = .ok (.invokestatic idx, 3)) (kk : xf_V X np L (.int r :: rest) σ') : xf_V X pc L (v2 :: v1 :: rest) σ := by
  exact xf_callSN hX np hp [v1, v2] rest hM hy hl rfl rfl (Nat.le_of_ble_eq_true hw) (xf_ble hR) hd (fun v u h => by obtain ⟨rfl, rfl⟩ := h; exact kk)
theorem xf_T2v (hX : xf_ok X l own cc nL fr lo wf D tys) (np : Nat) (hp : pc + 3 = np) {v1 v2 : Value} (hM : xf_F l y cc' nL' ret' fr' lo' wf D tys [v1, v2] σ none σ') (hy : xf_sta y cc' nL' ret' 2) {host : String} (hl : Cond.methodLinkNest own idx y host ∈ xf_NL) (hw : Nat.ble ((rest.map fun v => v.category).sum) 8 = true) (hR : (Nat.ble (fr' + 1) fr && Nat.ble (8 + (nL' + 11) + lo') lo) = true) (hd : decode cc pc = .ok (.invokestatic idx, 3)) (kk : xf_V X np L rest σ') : xf_V X pc L (v2 :: v1 :: rest) σ := by
  exact xf_callSN hX np hp [v1, v2] rest hM hy hl rfl rfl (Nat.le_of_ble_eq_true hw) (xf_ble hR) hd (fun v u h => by obtain ⟨rfl, rfl⟩ := h; exact kk)
theorem xf_T2r (hX : xf_ok X l own cc nL fr lo wf D tys) (np : Nat) (hp : pc + 3 = np) {v1 v2 : Value} (hM : xf_M l y cc' nL' ret' fr' lo' wf D tys [v1, v2] σ rq) (hy : xf_sta y cc' nL' ret' 2) {host : String} (hl : Cond.methodLinkNest own idx y host ∈ xf_NL) (hw : Nat.ble ((rest.map fun v => v.category).sum) 8 = true) (hR : (Nat.ble (fr' + 1) fr && Nat.ble (8 + (nL' + 11) + lo') lo) = true) (hd : decode cc pc = .ok (.invokestatic idx, 3)) (kk : ∀ (v : Option Value) (u : xf_S), rq v u → xf_V X np L (v.toList ++ rest) u) : xf_V X pc L (v2 :: v1 :: rest) σ := by
  exact xf_callSN hX np hp [v1, v2] rest hM hy hl rfl rfl (Nat.le_of_ble_eq_true hw) (xf_ble hR) hd kk
theorem xf_V2i (hX : xf_ok X l own cc nL fr lo wf D tys) (np : Nat) (hp : pc + 3 = np) {v1 v2 : Value} (hM : xf_F l y cc' nL' ret' fr' lo' wf D tys [.ref b, v1, v2] σ (some (.int r)) σ') (hy : xf_vir y cc' nL' ret' 2) (hl : Cond.methodLink own idx y ∈ xf_GW) (hrc : xf_rcv wf σ b y.cls) (hw : Nat.ble ((rest.map fun v => v.category).sum) 8 = true) (hR : (Nat.ble (fr' + 1) fr && Nat.ble (8 + (nL' + 11) + lo') lo) = true) (hd : decode cc pc = .ok (.invokevirtual idx, 3)) (kk : xf_V X np L (.int r :: rest) σ') : xf_V X pc L (v2 :: v1 :: .ref b :: rest) σ := by
  obtain ⟨q0, ci, fs, r0, e1, e2, e3⟩ := hrc
  exact xf_callV hX np hp [v1, v2] rest hM hy hl q0 ci e1 e2 e3 rfl rfl (Nat.le_of_ble_eq_true hw) (xf_ble hR) hd (fun v u h => by obtain ⟨rfl, rfl⟩ := h; exact kk)
theorem xf_V2v (hX : xf_ok X l own cc nL fr lo wf D tys) (np : Nat) (hp : pc + 3 = np) {v1 v2 : Value} (hM : xf_F l y cc' nL' ret' fr' lo' wf D tys [.ref b, v1, v2] σ none σ') (hy : xf_vir y cc' nL' ret' 2) (hl : Cond.methodLink own idx y ∈ xf_GW) (hrc : xf_rcv wf σ b y.cls) (hw : Nat.ble ((rest.map fun v => v.category).sum) 8 = true) (hR : (Nat.ble (fr' + 1) fr && Nat.ble (8 + (nL' + 11) + lo') lo) = true) (hd : decode cc pc = .ok (.invokevirtual idx, 3)) (kk : xf_V X np L rest σ') : xf_V X pc L (v2 :: v1 :: .ref b :: rest) σ := by
  obtain ⟨q0, ci, fs, r0, e1, e2, e3⟩ := hrc
  exact xf_callV hX np hp [v1, v2] rest hM hy hl q0 ci e1 e2 e3 rfl rfl (Nat.le_of_ble_eq_true hw) (xf_ble hR) hd (fun v u h => by obtain ⟨rfl, rfl⟩ := h; exact kk)
theorem xf_V2r (hX : xf_ok X l own cc nL fr lo wf D tys) (np : Nat) (hp : pc + 3 = np) {v1 v2 : Value} (hM : xf_M l y cc' nL' ret' fr' lo' wf D tys [.ref b, v1, v2] σ rq) (hy : xf_vir y cc' nL' ret' 2) (hl : Cond.methodLink own idx y ∈ xf_GW) (hrc : xf_rcv wf σ b y.cls) (hw : Nat.ble ((rest.map fun v => v.category).sum) 8 = true) (hR : (Nat.ble (fr' + 1) fr && Nat.ble (8 + (nL' + 11) + lo') lo) = true) (hd : decode cc pc = .ok (.invokevirtual idx, 3)) (kk : ∀ (v : Option Value) (u : xf_S), rq v u → xf_V X np L (v.toList ++ rest) u) : xf_V X pc L (v2 :: v1 :: .ref b :: rest) σ := by
  obtain ⟨q0, ci, fs, r0, e1, e2, e3⟩ := hrc
  exact xf_callV hX np hp [v1, v2] rest hM hy hl q0 ci e1 e2 e3 rfl rfl (Nat.le_of_ble_eq_true hw) (xf_ble hR) hd kk
theorem xf_U2i (hX : xf_ok X l own cc nL fr lo wf D tys) (np : Nat) (hp : pc + 3 = np) {v1 v2 : Value} (hM : xf_F l y cc' nL' ret' fr' lo' wf D tys [.ref b, v1, v2] σ (some (.int r)) σ') (hy : xf_vir y cc' nL' ret' 2) {host : String} (hl : Cond.methodLinkNest own idx y host ∈ xf_NL) (hrc : xf_rcv wf σ b y.cls) (hw : Nat.ble ((rest.map fun v => v.category).sum) 8 = true) (hR : (Nat.ble (fr' + 1) fr && Nat.ble (8 + (nL' + 11) + lo') lo) = true) (hd : decode cc pc = .ok (.invokevirtual idx, 3)) (kk : xf_V X np L (.int r :: rest) σ') : xf_V X pc L (v2 :: v1 :: .ref b :: rest) σ := by
  obtain ⟨q0, ci, fs, r0, e1, e2, e3⟩ := hrc
  exact xf_callVN hX np hp [v1, v2] rest hM hy hl q0 ci e1 e2 e3 rfl rfl (Nat.le_of_ble_eq_true hw) (xf_ble hR) hd (fun v u h => by obtain ⟨rfl, rfl⟩ := h; exact kk)
theorem xf_U2v (hX : xf_ok X l own cc nL fr lo wf D tys) (np : Nat) (hp : pc + 3 = np) {v1 v2 : Value} (hM : xf_F l y cc' nL' ret' fr' lo' wf D tys [.ref b, v1, v2] σ none σ') (hy : xf_vir y cc' nL' ret' 2) {host : String} (hl : Cond.methodLinkNest own idx y host ∈ xf_NL) (hrc : xf_rcv wf σ b y.cls) (hw : Nat.ble ((rest.map fun v => v.category).sum) 8 = true) (hR : (Nat.ble (fr' + 1) fr && Nat.ble (8 + (nL' + 11) + lo') lo) = true) (hd : decode cc pc = .ok (.invokevirtual idx, 3)) (kk : xf_V X np L rest σ') : xf_V X pc L (v2 :: v1 :: .ref b :: rest) σ := by
  obtain ⟨q0, ci, fs, r0, e1, e2, e3⟩ := hrc
  exact xf_callVN hX np hp [v1, v2] rest hM hy hl q0 ci e1 e2 e3 rfl rfl (Nat.le_of_ble_eq_true hw) (xf_ble hR) hd (fun v u h => by obtain ⟨rfl, rfl⟩ := h; exact kk)
theorem xf_U2r (hX : xf_ok X l own cc nL fr lo wf D tys) (np : Nat) (hp : pc + 3 = np) {v1 v2 : Value} (hM : xf_M l y cc' nL' ret' fr' lo' wf D tys [.ref b, v1, v2] σ rq) (hy : xf_vir y cc' nL' ret' 2) {host : String} (hl : Cond.methodLinkNest own idx y host ∈ xf_NL) (hrc : xf_rcv wf σ b y.cls) (hw : Nat.ble ((rest.map fun v => v.category).sum) 8 = true) (hR : (Nat.ble (fr' + 1) fr && Nat.ble (8 + (nL' + 11) + lo') lo) = true) (hd : decode cc pc = .ok (.invokevirtual idx, 3)) (kk : ∀ (v : Option Value) (u : xf_S), rq v u → xf_V X np L (v.toList ++ rest) u) : xf_V X pc L (v2 :: v1 :: .ref b :: rest) σ := by
  obtain ⟨q0, ci, fs, r0, e1, e2, e3⟩ := hrc
  exact xf_callVN hX np hp [v1, v2] rest hM hy hl q0 ci e1 e2 e3 rfl rfl (Nat.le_of_ble_eq_true hw) (xf_ble hR) hd kk
theorem xf_S3i (hX : xf_ok X l own cc nL fr lo wf D tys) (np : Nat) (hp : pc + 3 = np) {v1 v2 v3 : Value} (hM : xf_F l y cc' nL' ret' fr' lo' wf D tys [v1, v2, v3] σ (some (.int r)) σ') (hy : xf_sta y cc' nL' ret' 3) (hl : Cond.methodLink own idx y ∈ xf_GW) (hw : Nat.ble ((rest.map fun v => v.category).sum) 8 = true) (hR : (Nat.ble (fr' + 1) fr && Nat.ble (8 + (nL' + 11) + lo') lo) = true) (hd : decode cc pc = .ok (.invokestatic idx, 3)) (kk : xf_V X np L (.int r :: rest) σ') : xf_V X pc L (v3 :: v2 :: v1 :: rest) σ := by
  exact xf_callS hX np hp [v1, v2, v3] rest hM hy hl rfl rfl (Nat.le_of_ble_eq_true hw) (xf_ble hR) hd (fun v u h => by obtain ⟨rfl, rfl⟩ := h; exact kk)
theorem xf_S3v (hX : xf_ok X l own cc nL fr lo wf D tys) (np : Nat) (hp : pc + 3 = np) {v1 v2 v3 : Value} (hM : xf_F l y cc' nL' ret' fr' lo' wf D tys [v1, v2, v3] σ none σ') (hy : xf_sta y cc' nL' ret' 3) (hl : Cond.methodLink own idx y ∈ xf_GW) (hw : Nat.ble ((rest.map fun v => v.category).sum) 8 = true) (hR : (Nat.ble (fr' + 1) fr && Nat.ble (8 + (nL' + 11) + lo') lo) = true) (hd : decode cc pc = .ok (.invokestatic idx, 3)) (kk : xf_V X np L rest σ') : xf_V X pc L (v3 :: v2 :: v1 :: rest) σ := by
  exact xf_callS hX np hp [v1, v2, v3] rest hM hy hl rfl rfl (Nat.le_of_ble_eq_true hw) (xf_ble hR) hd (fun v u h => by obtain ⟨rfl, rfl⟩ := h; exact kk)
theorem xf_S3r (hX : xf_ok X l own cc nL fr lo wf D tys) (np : Nat) (hp : pc + 3 = np) {v1 v2 v3 : Value} (hM : xf_M l y cc' nL' ret' fr' lo' wf D tys [v1, v2, v3] σ rq) (hy : xf_sta y cc' nL' ret' 3) (hl : Cond.methodLink own idx y ∈ xf_GW) (hw : Nat.ble ((rest.map fun v => v.category).sum) 8 = true) (hR : (Nat.ble (fr' + 1) fr && Nat.ble (8 + (nL' + 11) + lo') lo) = true) (hd : decode cc pc = .ok (.invokestatic idx, 3)) (kk : ∀ (v : Option Value) (u : xf_S), rq v u → xf_V X np L (v.toList ++ rest) u) : xf_V X pc L (v3 :: v2 :: v1 :: rest) σ := by
  exact xf_callS hX np hp [v1, v2, v3] rest hM hy hl rfl rfl (Nat.le_of_ble_eq_true hw) (xf_ble hR) hd kk
theorem xf_T3i (hX : xf_ok X l own cc nL fr lo wf D tys) (np : Nat) (hp : pc + 3 = np) {v1 v2 v3 : Value} (hM : xf_F l y cc' nL' ret' fr' lo' wf D tys [v1, v2, v3] σ (some (.int r)) σ') (hy : xf_sta y cc' nL' ret' 3) {host : String} (hl : Cond.methodLinkNest own idx y host ∈ xf_NL) (hw : Nat.ble ((rest.map fun v => v.category).sum) 8 = true) (hR : (Nat.ble (fr' + 1) fr && Nat.ble (8 + (nL' + 11) + lo') lo) = true) (hd : decode cc pc = .ok (.invokestatic idx, 3)) (kk : xf_V X np L (.int r :: rest) σ') : xf_V X pc L (v3 :: v2 :: v1 :: rest) σ := by
  exact xf_callSN hX np hp [v1, v2, v3] rest hM hy hl rfl rfl (Nat.le_of_ble_eq_true hw) (xf_ble hR) hd (fun v u h => by obtain ⟨rfl, rfl⟩ := h; exact kk)
theorem xf_T3v (hX : xf_ok X l own cc nL fr lo wf D tys) (np : Nat) (hp : pc + 3 = np) {v1 v2 v3 : Value} (hM : xf_F l y cc' nL' ret' fr' lo' wf D tys [v1, v2, v3] σ none σ') (hy : xf_sta y cc' nL' ret' 3) {host : String} (hl : Cond.methodLinkNest own idx y host ∈ xf_NL) (hw : Nat.ble ((rest.map fun v => v.category).sum) 8 = true) (hR : (Nat.ble (fr' + 1) fr && Nat.ble (8 + (nL' + 11) + lo') lo) = true) (hd : decode cc pc = .ok (.invokestatic idx, 3)) (kk : xf_V X np L rest σ') : xf_V X pc L (v3 :: v2 :: v1 :: rest) σ := by
  exact xf_callSN hX np hp [v1, v2, v3] rest hM hy hl rfl rfl (Nat.le_of_ble_eq_true hw) (xf_ble hR) hd (fun v u h => by obtain ⟨rfl, rfl⟩ := h; exact kk)
theorem xf_T3r (hX : xf_ok X l own cc nL fr lo wf D tys) (np : Nat) (hp : pc + 3 = np) {v1 v2 v3 : Value} (hM : xf_M l y cc' nL' ret' fr' lo' wf D tys [v1, v2, v3] σ rq) (hy : xf_sta y cc' nL' ret' 3) {host : String} (hl : Cond.methodLinkNest own idx y host ∈ xf_NL) (hw : Nat.ble ((rest.map fun v => v.category).sum) 8 = true) (hR : (Nat.ble (fr' + 1) fr && Nat.ble (8 + (nL' + 11) + lo') lo) = true) (hd : decode cc pc = .ok (.invokestatic idx, 3)) (kk : ∀ (v : Option Value) (u : xf_S), rq v u → xf_V X np L (v.toList ++ rest) u) : xf_V X pc L (v3 :: v2 :: v1 :: rest) σ := by
  exact xf_callSN hX np hp [v1, v2, v3] rest hM hy hl rfl rfl (Nat.le_of_ble_eq_true hw) (xf_ble hR) hd kk
theorem xf_V3i (hX : xf_ok X l own cc nL fr lo wf D tys) (np : Nat) (hp : pc + 3 = np) {v1 v2 v3 : Value} (hM : xf_F l y cc' nL' ret' fr' lo' wf D tys [.ref b, v1, v2, v3] σ (some (.int r)) σ') (hy : xf_vir y cc' nL' ret' 3) (hl : Cond.methodLink own idx y ∈ xf_GW) (hrc : xf_rcv wf σ b y.cls) (hw : Nat.ble ((rest.map fun v => v.category).sum) 8 = true) (hR : (Nat.ble (fr' + 1) fr && Nat.ble (8 + (nL' + 11) + lo') lo) = true) (hd : decode cc pc = .ok (.invokevirtual idx, 3)) (kk : xf_V X np L (.int r :: rest) σ') : xf_V X pc L (v3 :: v2 :: v1 :: .ref b :: rest) σ := by
  obtain ⟨q0, ci, fs, r0, e1, e2, e3⟩ := hrc
  exact xf_callV hX np hp [v1, v2, v3] rest hM hy hl q0 ci e1 e2 e3 rfl rfl (Nat.le_of_ble_eq_true hw) (xf_ble hR) hd (fun v u h => by obtain ⟨rfl, rfl⟩ := h; exact kk)
theorem xf_V3v (hX : xf_ok X l own cc nL fr lo wf D tys) (np : Nat) (hp : pc + 3 = np) {v1 v2 v3 : Value} (hM : xf_F l y cc' nL' ret' fr' lo' wf D tys [.ref b, v1, v2, v3] σ none σ') (hy : xf_vir y cc' nL' ret' 3) (hl : Cond.methodLink own idx y ∈ xf_GW) (hrc : xf_rcv wf σ b y.cls) (hw : Nat.ble ((rest.map fun v => v.category).sum) 8 = true) (hR : (Nat.ble (fr' + 1) fr && Nat.ble (8 + (nL' + 11) + lo') lo) = true) (hd : decode cc pc = .ok (.invokevirtual idx, 3)) (kk : xf_V X np L rest σ') : xf_V X pc L (v3 :: v2 :: v1 :: .ref b :: rest) σ := by
  obtain ⟨q0, ci, fs, r0, e1, e2, e3⟩ := hrc
  exact xf_callV hX np hp [v1, v2, v3] rest hM hy hl q0 ci e1 e2 e3 rfl rfl (Nat.le_of_ble_eq_true hw) (xf_ble hR) hd (fun v u h => by obtain ⟨rfl, rfl⟩ := h; exact kk)
theorem xf_V3r (hX : xf_ok X l own cc nL fr lo wf D tys) (np : Nat) (hp : pc + 3 = np) {v1 v2 v3 : Value} (hM : xf_M l y cc' nL' ret' fr' lo' wf D tys [.ref b, v1, v2, v3] σ rq) (hy : xf_vir y cc' nL' ret' 3) (hl : Cond.methodLink own idx y ∈ xf_GW) (hrc : xf_rcv wf σ b y.cls) (hw : Nat.ble ((rest.map fun v => v.category).sum) 8 = true) (hR : (Nat.ble (fr' + 1) fr && Nat.ble (8 + (nL' + 11) + lo') lo) = true) (hd : decode cc pc = .ok (.invokevirtual idx, 3)) (kk : ∀ (v : Option Value) (u : xf_S), rq v u → xf_V X np L (v.toList ++ rest) u) : xf_V X pc L (v3 :: v2 :: v1 :: .ref b :: rest) σ := by
  obtain ⟨q0, ci, fs, r0, e1, e2, e3⟩ := hrc
  exact xf_callV hX np hp [v1, v2, v3] rest hM hy hl q0 ci e1 e2 e3 rfl rfl (Nat.le_of_ble_eq_true hw) (xf_ble hR) hd kk
theorem xf_U3i (hX : xf_ok X l own cc nL fr lo wf D tys) (np : Nat) (hp : pc + 3 = np) {v1 v2 v3 : Value} (hM : xf_F l y cc' nL' ret' fr' lo' wf D tys [.ref b, v1, v2, v3] σ (some (.int r)) σ') (hy : xf_vir y cc' nL' ret' 3) {host : String} (hl : Cond.methodLinkNest own idx y host ∈ xf_NL) (hrc : xf_rcv wf σ b y.cls) (hw : Nat.ble ((rest.map fun v => v.category).sum) 8 = true) (hR : (Nat.ble (fr' + 1) fr && Nat.ble (8 + (nL' + 11) + lo') lo) = true) (hd : decode cc pc = .ok (.invokevirtual idx, 3)) (kk : xf_V X np L (.int r :: rest) σ') : xf_V X pc L (v3 :: v2 :: v1 :: .ref b :: rest) σ := by
  obtain ⟨q0, ci, fs, r0, e1, e2, e3⟩ := hrc
  exact xf_callVN hX np hp [v1, v2, v3] rest hM hy hl q0 ci e1 e2 e3 rfl rfl (Nat.le_of_ble_eq_true hw) (xf_ble hR) hd (fun v u h => by obtain ⟨rfl, rfl⟩ := h; exact kk)
theorem xf_U3v (hX : xf_ok X l own cc nL fr lo wf D tys) (np : Nat) (hp : pc + 3 = np) {v1 v2 v3 : Value} (hM : xf_F l y cc' nL' ret' fr' lo' wf D tys [.ref b, v1, v2, v3] σ none σ') (hy : xf_vir y cc' nL' ret' 3) {host : String} (hl : Cond.methodLinkNest own idx y host ∈ xf_NL) (hrc : xf_rcv wf σ b y.cls) (hw : Nat.ble ((rest.map fun v => v.category).sum) 8 = true) (hR : (Nat.ble (fr' + 1) fr && Nat.ble (8 + (nL' + 11) + lo') lo) = true) (hd : decode cc pc = .ok (.invokevirtual idx, 3)) (kk : xf_V X np L rest σ') : xf_V X pc L (v3 :: v2 :: v1 :: .ref b :: rest) σ := by
  obtain ⟨q0, ci, fs, r0, e1, e2, e3⟩ := hrc
  exact xf_callVN hX np hp [v1, v2, v3] rest hM hy hl q0 ci e1 e2 e3 rfl rfl (Nat.le_of_ble_eq_true hw) (xf_ble hR) hd (fun v u h => by obtain ⟨rfl, rfl⟩ := h; exact kk)
theorem xf_U3r (hX : xf_ok X l own cc nL fr lo wf D tys) (np : Nat) (hp : pc + 3 = np) {v1 v2 v3 : Value} (hM : xf_M l y cc' nL' ret' fr' lo' wf D tys [.ref b, v1, v2, v3] σ rq) (hy : xf_vir y cc' nL' ret' 3) {host : String} (hl : Cond.methodLinkNest own idx y host ∈ xf_NL) (hrc : xf_rcv wf σ b y.cls) (hw : Nat.ble ((rest.map fun v => v.category).sum) 8 = true) (hR : (Nat.ble (fr' + 1) fr && Nat.ble (8 + (nL' + 11) + lo') lo) = true) (hd : decode cc pc = .ok (.invokevirtual idx, 3)) (kk : ∀ (v : Option Value) (u : xf_S), rq v u → xf_V X np L (v.toList ++ rest) u) : xf_V X pc L (v3 :: v2 :: v1 :: .ref b :: rest) σ := by
  obtain ⟨q0, ci, fs, r0, e1, e2, e3⟩ := hrc
  exact xf_callVN hX np hp [v1, v2, v3] rest hM hy hl q0 ci e1 e2 e3 rfl rfl (Nat.le_of_ble_eq_true hw) (xf_ble hR) hd kk
theorem xf_S4i (hX : xf_ok X l own cc nL fr lo wf D tys) (np : Nat) (hp : pc + 3 = np) {v1 v2 v3 v4 : Value} (hM : xf_F l y cc' nL' ret' fr' lo' wf D tys [v1, v2, v3, v4] σ (some (.int r)) σ') (hy : xf_sta y cc' nL' ret' 4) (hl : Cond.methodLink own idx y ∈ xf_GW) (hw : Nat.ble ((rest.map fun v => v.category).sum) 8 = true) (hR : (Nat.ble (fr' + 1) fr && Nat.ble (8 + (nL' + 11) + lo') lo) = true) (hd : decode cc pc = .ok (.invokestatic idx, 3)) (kk : xf_V X np L (.int r :: rest) σ') : xf_V X pc L (v4 :: v3 :: v2 :: v1 :: rest) σ := by
  exact xf_callS hX np hp [v1, v2, v3, v4] rest hM hy hl rfl rfl (Nat.le_of_ble_eq_true hw) (xf_ble hR) hd (fun v u h => by obtain ⟨rfl, rfl⟩ := h; exact kk)
theorem xf_S4v (hX : xf_ok X l own cc nL fr lo wf D tys) (np : Nat) (hp : pc + 3 = np) {v1 v2 v3 v4 : Value} (hM : xf_F l y cc' nL' ret' fr' lo' wf D tys [v1, v2, v3, v4] σ none σ') (hy : xf_sta y cc' nL' ret' 4) (hl : Cond.methodLink own idx y ∈ xf_GW) (hw : Nat.ble ((rest.map fun v => v.category).sum) 8 = true) (hR : (Nat.ble (fr' + 1) fr && Nat.ble (8 + (nL' + 11) + lo') lo) = true) (hd : decode cc pc = .ok (.invokestatic idx, 3)) (kk : xf_V X np L rest σ') : xf_V X pc L (v4 :: v3 :: v2 :: v1 :: rest) σ := by
  exact xf_callS hX np hp [v1, v2, v3, v4] rest hM hy hl rfl rfl (Nat.le_of_ble_eq_true hw) (xf_ble hR) hd (fun v u h => by obtain ⟨rfl, rfl⟩ := h; exact kk)
theorem xf_S4r (hX : xf_ok X l own cc nL fr lo wf D tys) (np : Nat) (hp : pc + 3 = np) {v1 v2 v3 v4 : Value} (hM : xf_M l y cc' nL' ret' fr' lo' wf D tys [v1, v2, v3, v4] σ rq) (hy : xf_sta y cc' nL' ret' 4) (hl : Cond.methodLink own idx y ∈ xf_GW) (hw : Nat.ble ((rest.map fun v => v.category).sum) 8 = true) (hR : (Nat.ble (fr' + 1) fr && Nat.ble (8 + (nL' + 11) + lo') lo) = true) (hd : decode cc pc = .ok (.invokestatic idx, 3)) (kk : ∀ (v : Option Value) (u : xf_S), rq v u → xf_V X np L (v.toList ++ rest) u) : xf_V X pc L (v4 :: v3 :: v2 :: v1 :: rest) σ := by
  exact xf_callS hX np hp [v1, v2, v3, v4] rest hM hy hl rfl rfl (Nat.le_of_ble_eq_true hw) (xf_ble hR) hd kk
theorem xf_T4i (hX : xf_ok X l own cc nL fr lo wf D tys) (np : Nat) (hp : pc + 3 = np) {v1 v2 v3 v4 : Value} (hM : xf_F l y cc' nL' ret' fr' lo' wf D tys [v1, v2, v3, v4] σ (some (.int r)) σ') (hy : xf_sta y cc' nL' ret' 4) {host : String} (hl : Cond.methodLinkNest own idx y host ∈ xf_NL) (hw : Nat.ble ((rest.map fun v => v.category).sum) 8 = true) (hR : (Nat.ble (fr' + 1) fr && Nat.ble (8 + (nL' + 11) + lo') lo) = true) (hd : decode cc pc = .ok (.invokestatic idx, 3)) (kk : xf_V X np L (.int r :: rest) σ') : xf_V X pc L (v4 :: v3 :: v2 :: v1 :: rest) σ := by
  exact xf_callSN hX np hp [v1, v2, v3, v4] rest hM hy hl rfl rfl (Nat.le_of_ble_eq_true hw) (xf_ble hR) hd (fun v u h => by obtain ⟨rfl, rfl⟩ := h; exact kk)
theorem xf_T4v (hX : xf_ok X l own cc nL fr lo wf D tys) (np : Nat) (hp : pc + 3 = np) {v1 v2 v3 v4 : Value} (hM : xf_F l y cc' nL' ret' fr' lo' wf D tys [v1, v2, v3, v4] σ none σ') (hy : xf_sta y cc' nL' ret' 4) {host : String} (hl : Cond.methodLinkNest own idx y host ∈ xf_NL) (hw : Nat.ble ((rest.map fun v => v.category).sum) 8 = true) (hR : (Nat.ble (fr' + 1) fr && Nat.ble (8 + (nL' + 11) + lo') lo) = true) (hd : decode cc pc = .ok (.invokestatic idx, 3)) (kk : xf_V X np L rest σ') : xf_V X pc L (v4 :: v3 :: v2 :: v1 :: rest) σ := by
  exact xf_callSN hX np hp [v1, v2, v3, v4] rest hM hy hl rfl rfl (Nat.le_of_ble_eq_true hw) (xf_ble hR) hd (fun v u h => by obtain ⟨rfl, rfl⟩ := h; exact kk)
theorem xf_T4r (hX : xf_ok X l own cc nL fr lo wf D tys) (np : Nat) (hp : pc + 3 = np) {v1 v2 v3 v4 : Value} (hM : xf_M l y cc' nL' ret' fr' lo' wf D tys [v1, v2, v3, v4] σ rq) (hy : xf_sta y cc' nL' ret' 4) {host : String} (hl : Cond.methodLinkNest own idx y host ∈ xf_NL) (hw : Nat.ble ((rest.map fun v => v.category).sum) 8 = true) (hR : (Nat.ble (fr' + 1) fr && Nat.ble (8 + (nL' + 11) + lo') lo) = true) (hd : decode cc pc = .ok (.invokestatic idx, 3)) (kk : ∀ (v : Option Value) (u : xf_S), rq v u → xf_V X np L (v.toList ++ rest) u) : xf_V X pc L (v4 :: v3 :: v2 :: v1 :: rest) σ := by
  exact xf_callSN hX np hp [v1, v2, v3, v4] rest hM hy hl rfl rfl (Nat.le_of_ble_eq_true hw) (xf_ble hR) hd kk
theorem xf_V4i (hX : xf_ok X l own cc nL fr lo wf D tys) (np : Nat) (hp : pc + 3 = np) {v1 v2 v3 v4 : Value} (hM : xf_F l y cc' nL' ret' fr' lo' wf D tys [.ref b, v1, v2, v3, v4] σ (some (.int r)) σ') (hy : xf_vir y cc' nL' ret' 4) (hl : Cond.methodLink own idx y ∈ xf_GW) (hrc : xf_rcv wf σ b y.cls) (hw : Nat.ble ((rest.map fun v => v.category).sum) 8 = true) (hR : (Nat.ble (fr' + 1) fr && Nat.ble (8 + (nL' + 11) + lo') lo) = true) (hd : decode cc pc = .ok (.invokevirtual idx, 3)) (kk : xf_V X np L (.int r :: rest) σ') : xf_V X pc L (v4 :: v3 :: v2 :: v1 :: .ref b :: rest) σ := by
  obtain ⟨q0, ci, fs, r0, e1, e2, e3⟩ := hrc
  exact xf_callV hX np hp [v1, v2, v3, v4] rest hM hy hl q0 ci e1 e2 e3 rfl rfl (Nat.le_of_ble_eq_true hw) (xf_ble hR) hd (fun v u h => by obtain ⟨rfl, rfl⟩ := h; exact kk)
theorem xf_V4v (hX : xf_ok X l own cc nL fr lo wf D tys) (np : Nat) (hp : pc + 3 = np) {v1 v2 v3 v4 : Value} (hM : xf_F l y cc' nL' ret' fr' lo' wf D tys [.ref b, v1, v2, v3, v4] σ none σ') (hy : xf_vir y cc' nL' ret' 4) (hl : Cond.methodLink own idx y ∈ xf_GW) (hrc : xf_rcv wf σ b y.cls) (hw : Nat.ble ((rest.map fun v => v.category).sum) 8 = true) (hR : (Nat.ble (fr' + 1) fr && Nat.ble (8 + (nL' + 11) + lo') lo) = true) (hd : decode cc pc = .ok (.invokevirtual idx, 3)) (kk : xf_V X np L rest σ') : xf_V X pc L (v4 :: v3 :: v2 :: v1 :: .ref b :: rest) σ := by
  obtain ⟨q0, ci, fs, r0, e1, e2, e3⟩ := hrc
  exact xf_callV hX np hp [v1, v2, v3, v4] rest hM hy hl q0 ci e1 e2 e3 rfl rfl (Nat.le_of_ble_eq_true hw) (xf_ble hR) hd (fun v u h => by obtain ⟨rfl, rfl⟩ := h; exact kk)
theorem xf_V4r (hX : xf_ok X l own cc nL fr lo wf D tys) (np : Nat) (hp : pc + 3 = np) {v1 v2 v3 v4 : Value} (hM : xf_M l y cc' nL' ret' fr' lo' wf D tys [.ref b, v1, v2, v3, v4] σ rq) (hy : xf_vir y cc' nL' ret' 4) (hl : Cond.methodLink own idx y ∈ xf_GW) (hrc : xf_rcv wf σ b y.cls) (hw : Nat.ble ((rest.map fun v => v.category).sum) 8 = true) (hR : (Nat.ble (fr' + 1) fr && Nat.ble (8 + (nL' + 11) + lo') lo) = true) (hd : decode cc pc = .ok (.invokevirtual idx, 3)) (kk : ∀ (v : Option Value) (u : xf_S), rq v u → xf_V X np L (v.toList ++ rest) u) : xf_V X pc L (v4 :: v3 :: v2 :: v1 :: .ref b :: rest) σ := by
  obtain ⟨q0, ci, fs, r0, e1, e2, e3⟩ := hrc
  exact xf_callV hX np hp [v1, v2, v3, v4] rest hM hy hl q0 ci e1 e2 e3 rfl rfl (Nat.le_of_ble_eq_true hw) (xf_ble hR) hd kk
theorem xf_U4i (hX : xf_ok X l own cc nL fr lo wf D tys) (np : Nat) (hp : pc + 3 = np) {v1 v2 v3 v4 : Value} (hM : xf_F l y cc' nL' ret' fr' lo' wf D tys [.ref b, v1, v2, v3, v4] σ (some (.int r)) σ') (hy : xf_vir y cc' nL' ret' 4) {host : String} (hl : Cond.methodLinkNest own idx y host ∈ xf_NL) (hrc : xf_rcv wf σ b y.cls) (hw : Nat.ble ((rest.map fun v => v.category).sum) 8 = true) (hR : (Nat.ble (fr' + 1) fr && Nat.ble (8 + (nL' + 11) + lo') lo) = true) (hd : decode cc pc = .ok (.invokevirtual idx, 3)) (kk : xf_V X np L (.int r :: rest) σ') : xf_V X pc L (v4 :: v3 :: v2 :: v1 :: .ref b :: rest) σ := by
  obtain ⟨q0, ci, fs, r0, e1, e2, e3⟩ := hrc
  exact xf_callVN hX np hp [v1, v2, v3, v4] rest hM hy hl q0 ci e1 e2 e3 rfl rfl (Nat.le_of_ble_eq_true hw) (xf_ble hR) hd (fun v u h => by obtain ⟨rfl, rfl⟩ := h; exact kk)
theorem xf_U4v (hX : xf_ok X l own cc nL fr lo wf D tys) (np : Nat) (hp : pc + 3 = np) {v1 v2 v3 v4 : Value} (hM : xf_F l y cc' nL' ret' fr' lo' wf D tys [.ref b, v1, v2, v3, v4] σ none σ') (hy : xf_vir y cc' nL' ret' 4) {host : String} (hl : Cond.methodLinkNest own idx y host ∈ xf_NL) (hrc : xf_rcv wf σ b y.cls) (hw : Nat.ble ((rest.map fun v => v.category).sum) 8 = true) (hR : (Nat.ble (fr' + 1) fr && Nat.ble (8 + (nL' + 11) + lo') lo) = true) (hd : decode cc pc = .ok (.invokevirtual idx, 3)) (kk : xf_V X np L rest σ') : xf_V X pc L (v4 :: v3 :: v2 :: v1 :: .ref b :: rest) σ := by
  obtain ⟨q0, ci, fs, r0, e1, e2, e3⟩ := hrc
  exact xf_callVN hX np hp [v1, v2, v3, v4] rest hM hy hl q0 ci e1 e2 e3 rfl rfl (Nat.le_of_ble_eq_true hw) (xf_ble hR) hd (fun v u h => by obtain ⟨rfl, rfl⟩ := h; exact kk)
theorem xf_U4r (hX : xf_ok X l own cc nL fr lo wf D tys) (np : Nat) (hp : pc + 3 = np) {v1 v2 v3 v4 : Value} (hM : xf_M l y cc' nL' ret' fr' lo' wf D tys [.ref b, v1, v2, v3, v4] σ rq) (hy : xf_vir y cc' nL' ret' 4) {host : String} (hl : Cond.methodLinkNest own idx y host ∈ xf_NL) (hrc : xf_rcv wf σ b y.cls) (hw : Nat.ble ((rest.map fun v => v.category).sum) 8 = true) (hR : (Nat.ble (fr' + 1) fr && Nat.ble (8 + (nL' + 11) + lo') lo) = true) (hd : decode cc pc = .ok (.invokevirtual idx, 3)) (kk : ∀ (v : Option Value) (u : xf_S), rq v u → xf_V X np L (v.toList ++ rest) u) : xf_V X pc L (v4 :: v3 :: v2 :: v1 :: .ref b :: rest) σ := by
  obtain ⟨q0, ci, fs, r0, e1, e2, e3⟩ := hrc
  exact xf_callVN hX np hp [v1, v2, v3, v4] rest hM hy hl q0 ci e1 e2 e3 rfl rfl (Nat.le_of_ble_eq_true hw) (xf_ble hR) hd kk
theorem xf_S5i (hX : xf_ok X l own cc nL fr lo wf D tys) (np : Nat) (hp : pc + 3 = np) {v1 v2 v3 v4 v5 : Value} (hM : xf_F l y cc' nL' ret' fr' lo' wf D tys [v1, v2, v3, v4, v5] σ (some (.int r)) σ') (hy : xf_sta y cc' nL' ret' 5) (hl : Cond.methodLink own idx y ∈ xf_GW) (hw : Nat.ble ((rest.map fun v => v.category).sum) 8 = true) (hR : (Nat.ble (fr' + 1) fr && Nat.ble (8 + (nL' + 11) + lo') lo) = true) (hd : decode cc pc = .ok (.invokestatic idx, 3)) (kk : xf_V X np L (.int r :: rest) σ') : xf_V X pc L (v5 :: v4 :: v3 :: v2 :: v1 :: rest) σ := by
  exact xf_callS hX np hp [v1, v2, v3, v4, v5] rest hM hy hl rfl rfl (Nat.le_of_ble_eq_true hw) (xf_ble hR) hd (fun v u h => by obtain ⟨rfl, rfl⟩ := h; exact kk)
theorem xf_S5v (hX : xf_ok X l own cc nL fr lo wf D tys) (np : Nat) (hp : pc + 3 = np) {v1 v2 v3 v4 v5 : Value} (hM : xf_F l y cc' nL' ret' fr' lo' wf D tys [v1, v2, v3, v4, v5] σ none σ') (hy : xf_sta y cc' nL' ret' 5) (hl : Cond.methodLink own idx y ∈ xf_GW) (hw : Nat.ble ((rest.map fun v => v.category).sum) 8 = true) (hR : (Nat.ble (fr' + 1) fr && Nat.ble (8 + (nL' + 11) + lo') lo) = true) (hd : decode cc pc = .ok (.invokestatic idx, 3)) (kk : xf_V X np L rest σ') : xf_V X pc L (v5 :: v4 :: v3 :: v2 :: v1 :: rest) σ := by
  exact xf_callS hX np hp [v1, v2, v3, v4, v5] rest hM hy hl rfl rfl (Nat.le_of_ble_eq_true hw) (xf_ble hR) hd (fun v u h => by obtain ⟨rfl, rfl⟩ := h; exact kk)
theorem xf_S5r (hX : xf_ok X l own cc nL fr lo wf D tys) (np : Nat) (hp : pc + 3 = np) {v1 v2 v3 v4 v5 : Value} (hM : xf_M l y cc' nL' ret' fr' lo' wf D tys [v1, v2, v3, v4, v5] σ rq) (hy : xf_sta y cc' nL' ret' 5) (hl : Cond.methodLink own idx y ∈ xf_GW) (hw : Nat.ble ((rest.map fun v => v.category).sum) 8 = true) (hR : (Nat.ble (fr' + 1) fr && Nat.ble (8 + (nL' + 11) + lo') lo) = true) (hd : decode cc pc = .ok (.invokestatic idx, 3)) (kk : ∀ (v : Option Value) (u : xf_S), rq v u → xf_V X np L (v.toList ++ rest) u) : xf_V X pc L (v5 :: v4 :: v3 :: v2 :: v1 :: rest) σ := by
  exact xf_callS hX np hp [v1, v2, v3, v4, v5] rest hM hy hl rfl rfl (Nat.le_of_ble_eq_true hw) (xf_ble hR) hd kk
theorem xf_T5i (hX : xf_ok X l own cc nL fr lo wf D tys) (np : Nat) (hp : pc + 3 = np) {v1 v2 v3 v4 v5 : Value} (hM : xf_F l y cc' nL' ret' fr' lo' wf D tys [v1, v2, v3, v4, v5] σ (some (.int r)) σ') (hy : xf_sta y cc' nL' ret' 5) {host : String} (hl : Cond.methodLinkNest own idx y host ∈ xf_NL) (hw : Nat.ble ((rest.map fun v => v.category).sum) 8 = true) (hR : (Nat.ble (fr' + 1) fr && Nat.ble (8 + (nL' + 11) + lo') lo) = true) (hd : decode cc pc = .ok (.invokestatic idx, 3)) (kk : xf_V X np L (.int r :: rest) σ') : xf_V X pc L (v5 :: v4 :: v3 :: v2 :: v1 :: rest) σ := by
  exact xf_callSN hX np hp [v1, v2, v3, v4, v5] rest hM hy hl rfl rfl (Nat.le_of_ble_eq_true hw) (xf_ble hR) hd (fun v u h => by obtain ⟨rfl, rfl⟩ := h; exact kk)
theorem xf_T5v (hX : xf_ok X l own cc nL fr lo wf D tys) (np : Nat) (hp : pc + 3 = np) {v1 v2 v3 v4 v5 : Value} (hM : xf_F l y cc' nL' ret' fr' lo' wf D tys [v1, v2, v3, v4, v5] σ none σ') (hy : xf_sta y cc' nL' ret' 5) {host : String} (hl : Cond.methodLinkNest own idx y host ∈ xf_NL) (hw : Nat.ble ((rest.map fun v => v.category).sum) 8 = true) (hR : (Nat.ble (fr' + 1) fr && Nat.ble (8 + (nL' + 11) + lo') lo) = true) (hd : decode cc pc = .ok (.invokestatic idx, 3)) (kk : xf_V X np L rest σ') : xf_V X pc L (v5 :: v4 :: v3 :: v2 :: v1 :: rest) σ := by
  exact xf_callSN hX np hp [v1, v2, v3, v4, v5] rest hM hy hl rfl rfl (Nat.le_of_ble_eq_true hw) (xf_ble hR) hd (fun v u h => by obtain ⟨rfl, rfl⟩ := h; exact kk)
theorem xf_T5r (hX : xf_ok X l own cc nL fr lo wf D tys) (np : Nat) (hp : pc + 3 = np) {v1 v2 v3 v4 v5 : Value} (hM : xf_M l y cc' nL' ret' fr' lo' wf D tys [v1, v2, v3, v4, v5] σ rq) (hy : xf_sta y cc' nL' ret' 5) {host : String} (hl : Cond.methodLinkNest own idx y host ∈ xf_NL) (hw : Nat.ble ((rest.map fun v => v.category).sum) 8 = true) (hR : (Nat.ble (fr' + 1) fr && Nat.ble (8 + (nL' + 11) + lo') lo) = true) (hd : decode cc pc = .ok (.invokestatic idx, 3)) (kk : ∀ (v : Option Value) (u : xf_S), rq v u → xf_V X np L (v.toList ++ rest) u) : xf_V X pc L (v5 :: v4 :: v3 :: v2 :: v1 :: rest) σ := by
  exact xf_callSN hX np hp [v1, v2, v3, v4, v5] rest hM hy hl rfl rfl (Nat.le_of_ble_eq_true hw) (xf_ble hR) hd kk
theorem xf_V5i (hX : xf_ok X l own cc nL fr lo wf D tys) (np : Nat) (hp : pc + 3 = np) {v1 v2 v3 v4 v5 : Value} (hM : xf_F l y cc' nL' ret' fr' lo' wf D tys [.ref b, v1, v2, v3, v4, v5] σ (some (.int r)) σ') (hy : xf_vir y cc' nL' ret' 5) (hl : Cond.methodLink own idx y ∈ xf_GW) (hrc : xf_rcv wf σ b y.cls) (hw : Nat.ble ((rest.map fun v => v.category).sum) 8 = true) (hR : (Nat.ble (fr' + 1) fr && Nat.ble (8 + (nL' + 11) + lo') lo) = true) (hd : decode cc pc = .ok (.invokevirtual idx, 3)) (kk : xf_V X np L (.int r :: rest) σ') : xf_V X pc L (v5 :: v4 :: v3 :: v2 :: v1 :: .ref b :: rest) σ := by
  obtain ⟨q0, ci, fs, r0, e1, e2, e3⟩ := hrc
  exact xf_callV hX np hp [v1, v2, v3, v4, v5] rest hM hy hl q0 ci e1 e2 e3 rfl rfl (Nat.le_of_ble_eq_true hw) (xf_ble hR) hd (fun v u h => by obtain ⟨rfl, rfl⟩ := h; exact kk)
theorem xf_V5v (hX : xf_ok X l own cc nL fr lo wf D tys) (np : Nat) (hp : pc + 3 = np) {v1 v2 v3 v4 v5 : Value} (hM : xf_F l y cc' nL' ret' fr' lo' wf D tys [.ref b, v1, v2, v3, v4, v5] σ none σ') (hy : xf_vir y cc' nL' ret' 5) (hl : Cond.methodLink own idx y ∈ xf_GW) (hrc : xf_rcv wf σ b y.cls) (hw : Nat.ble ((rest.map fun v => v.category).sum) 8 = true) (hR : (Nat.ble (fr' + 1) fr && Nat.ble (8 + (nL' + 11) + lo') lo) = true) (hd : decode cc pc = .ok (.invokevirtual idx, 3)) (kk : xf_V X np L rest σ') : xf_V X pc L (v5 :: v4 :: v3 :: v2 :: v1 :: .ref b :: rest) σ := by
  obtain ⟨q0, ci, fs, r0, e1, e2, e3⟩ := hrc
  exact xf_callV hX np hp [v1, v2, v3, v4, v5] rest hM hy hl q0 ci e1 e2 e3 rfl rfl (Nat.le_of_ble_eq_true hw) (xf_ble hR) hd (fun v u h => by obtain ⟨rfl, rfl⟩ := h; exact kk)
theorem xf_V5r (hX : xf_ok X l own cc nL fr lo wf D tys) (np : Nat) (hp : pc + 3 = np) {v1 v2 v3 v4 v5 : Value} (hM : xf_M l y cc' nL' ret' fr' lo' wf D tys [.ref b, v1, v2, v3, v4, v5] σ rq) (hy : xf_vir y cc' nL' ret' 5) (hl : Cond.methodLink own idx y ∈ xf_GW) (hrc : xf_rcv wf σ b y.cls) (hw : Nat.ble ((rest.map fun v => v.category).sum) 8 = true) (hR : (Nat.ble (fr' + 1) fr && Nat.ble (8 + (nL' + 11) + lo') lo) = true) (hd : decode cc pc = .ok (.invokevirtual idx, 3)) (kk : ∀ (v : Option Value) (u : xf_S), rq v u → xf_V X np L (v.toList ++ rest) u) : xf_V X pc L (v5 :: v4 :: v3 :: v2 :: v1 :: .ref b :: rest) σ := by
  obtain ⟨q0, ci, fs, r0, e1, e2, e3⟩ := hrc
  exact xf_callV hX np hp [v1, v2, v3, v4, v5] rest hM hy hl q0 ci e1 e2 e3 rfl rfl (Nat.le_of_ble_eq_true hw) (xf_ble hR) hd kk
theorem xf_U5i (hX : xf_ok X l own cc nL fr lo wf D tys) (np : Nat) (hp : pc + 3 = np) {v1 v2 v3 v4 v5 : Value} (hM : xf_F l y cc' nL' ret' fr' lo' wf D tys [.ref b, v1, v2, v3, v4, v5] σ (some (.int r)) σ') (hy : xf_vir y cc' nL' ret' 5) {host : String} (hl : Cond.methodLinkNest own idx y host ∈ xf_NL) (hrc : xf_rcv wf σ b y.cls) (hw : Nat.ble ((rest.map fun v => v.category).sum) 8 = true) (hR : (Nat.ble (fr' + 1) fr && Nat.ble (8 + (nL' + 11) + lo') lo) = true) (hd : decode cc pc = .ok (.invokevirtual idx, 3)) (kk : xf_V X np L (.int r :: rest) σ') : xf_V X pc L (v5 :: v4 :: v3 :: v2 :: v1 :: .ref b :: rest) σ := by
  obtain ⟨q0, ci, fs, r0, e1, e2, e3⟩ := hrc
  exact xf_callVN hX np hp [v1, v2, v3, v4, v5] rest hM hy hl q0 ci e1 e2 e3 rfl rfl (Nat.le_of_ble_eq_true hw) (xf_ble hR) hd (fun v u h => by obtain ⟨rfl, rfl⟩ := h; exact kk)
theorem xf_U5v (hX : xf_ok X l own cc nL fr lo wf D tys) (np : Nat) (hp : pc + 3 = np) {v1 v2 v3 v4 v5 : Value} (hM : xf_F l y cc' nL' ret' fr' lo' wf D tys [.ref b, v1, v2, v3, v4, v5] σ none σ') (hy : xf_vir y cc' nL' ret' 5) {host : String} (hl : Cond.methodLinkNest own idx y host ∈ xf_NL) (hrc : xf_rcv wf σ b y.cls) (hw : Nat.ble ((rest.map fun v => v.category).sum) 8 = true) (hR : (Nat.ble (fr' + 1) fr && Nat.ble (8 + (nL' + 11) + lo') lo) = true) (hd : decode cc pc = .ok (.invokevirtual idx, 3)) (kk : xf_V X np L rest σ') : xf_V X pc L (v5 :: v4 :: v3 :: v2 :: v1 :: .ref b :: rest) σ := by
  obtain ⟨q0, ci, fs, r0, e1, e2, e3⟩ := hrc
  exact xf_callVN hX np hp [v1, v2, v3, v4, v5] rest hM hy hl q0 ci e1 e2 e3 rfl rfl (Nat.le_of_ble_eq_true hw) (xf_ble hR) hd (fun v u h => by obtain ⟨rfl, rfl⟩ := h; exact kk)
theorem xf_U5r (hX : xf_ok X l own cc nL fr lo wf D tys) (np : Nat) (hp : pc + 3 = np) {v1 v2 v3 v4 v5 : Value} (hM : xf_M l y cc' nL' ret' fr' lo' wf D tys [.ref b, v1, v2, v3, v4, v5] σ rq) (hy : xf_vir y cc' nL' ret' 5) {host : String} (hl : Cond.methodLinkNest own idx y host ∈ xf_NL) (hrc : xf_rcv wf σ b y.cls) (hw : Nat.ble ((rest.map fun v => v.category).sum) 8 = true) (hR : (Nat.ble (fr' + 1) fr && Nat.ble (8 + (nL' + 11) + lo') lo) = true) (hd : decode cc pc = .ok (.invokevirtual idx, 3)) (kk : ∀ (v : Option Value) (u : xf_S), rq v u → xf_V X np L (v.toList ++ rest) u) : xf_V X pc L (v5 :: v4 :: v3 :: v2 :: v1 :: .ref b :: rest) σ := by
  obtain ⟨q0, ci, fs, r0, e1, e2, e3⟩ := hrc
  exact xf_callVN hX np hp [v1, v2, v3, v4, v5] rest hM hy hl q0 ci e1 e2 e3 rfl rfl (Nat.le_of_ble_eq_true hw) (xf_ble hR) hd kk
theorem xf_S6i (hX : xf_ok X l own cc nL fr lo wf D tys) (np : Nat) (hp : pc + 3 = np) {v1 v2 v3 v4 v5 v6 : Value} (hM : xf_F l y cc' nL' ret' fr' lo' wf D tys [v1, v2, v3, v4, v5, v6] σ (some (.int r)) σ') (hy : xf_sta y cc' nL' ret' 6) (hl : Cond.methodLink own idx y ∈ xf_GW) (hw : Nat.ble ((rest.map fun v => v.category).sum) 8 = true) (hR : (Nat.ble (fr' + 1) fr && Nat.ble (8 + (nL' + 11) + lo') lo) = true) (hd : decode cc pc = .ok (.invokestatic idx, 3)) (kk : xf_V X np L (.int r :: rest) σ') : xf_V X pc L (v6 :: v5 :: v4 :: v3 :: v2 :: v1 :: rest) σ := by
  exact xf_callS hX np hp [v1, v2, v3, v4, v5, v6] rest hM hy hl rfl rfl (Nat.le_of_ble_eq_true hw) (xf_ble hR) hd (fun v u h => by obtain ⟨rfl, rfl⟩ := h; exact kk)
theorem xf_S6v (hX : xf_ok X l own cc nL fr lo wf D tys) (np : Nat) (hp : pc + 3 = np) {v1 v2 v3 v4 v5 v6 : Value} (hM : xf_F l y cc' nL' ret' fr' lo' wf D tys [v1, v2, v3, v4, v5, v6] σ none σ') (hy : xf_sta y cc' nL' ret' 6) (hl : Cond.methodLink own idx y ∈ xf_GW) (hw : Nat.ble ((rest.map fun v => v.category).sum) 8 = true) (hR : (Nat.ble (fr' + 1) fr && Nat.ble (8 + (nL' + 11) + lo') lo) = true) (hd : decode cc pc = .ok (.invokestatic idx, 3)) (kk : xf_V X np L rest σ') : xf_V X pc L (v6 :: v5 :: v4 :: v3 :: v2 :: v1 :: rest) σ := by
  exact xf_callS hX np hp [v1, v2, v3, v4, v5, v6] rest hM hy hl rfl rfl (Nat.le_of_ble_eq_true hw) (xf_ble hR) hd (fun v u h => by obtain ⟨rfl, rfl⟩ := h; exact kk)
theorem xf_S6r (hX : xf_ok X l own cc nL fr lo wf D tys) (np : Nat) (hp : pc + 3 = np) {v1 v2 v3 v4 v5 v6 : Value} (hM : xf_M l y cc' nL' ret' fr' lo' wf D tys [v1, v2, v3, v4, v5, v6] σ rq) (hy : xf_sta y cc' nL' ret' 6) (hl : Cond.methodLink own idx y ∈ xf_GW) (hw : Nat.ble ((rest.map fun v => v.category).sum) 8 = true) (hR : (Nat.ble (fr' + 1) fr && Nat.ble (8 + (nL' + 11) + lo') lo) = true) (hd : decode cc pc = .ok (.invokestatic idx, 3)) (kk : ∀ (v : Option Value) (u : xf_S), rq v u → xf_V X np L (v.toList ++ rest) u) : xf_V X pc L (v6 :: v5 :: v4 :: v3 :: v2 :: v1 :: rest) σ := by
  exact xf_callS hX np hp [v1, v2, v3, v4, v5, v6] rest hM hy hl rfl rfl (Nat.le_of_ble_eq_true hw) (xf_ble hR) hd kk
theorem xf_T6i (hX : xf_ok X l own cc nL fr lo wf D tys) (np : Nat) (hp : pc + 3 = np) {v1 v2 v3 v4 v5 v6 : Value} (hM : xf_F l y cc' nL' ret' fr' lo' wf D tys [v1, v2, v3, v4, v5, v6] σ (some (.int r)) σ') (hy : xf_sta y cc' nL' ret' 6) {host : String} (hl : Cond.methodLinkNest own idx y host ∈ xf_NL) (hw : Nat.ble ((rest.map fun v => v.category).sum) 8 = true) (hR : (Nat.ble (fr' + 1) fr && Nat.ble (8 + (nL' + 11) + lo') lo) = true) (hd : decode cc pc = .ok (.invokestatic idx, 3)) (kk : xf_V X np L (.int r :: rest) σ') : xf_V X pc L (v6 :: v5 :: v4 :: v3 :: v2 :: v1 :: rest) σ := by
  exact xf_callSN hX np hp [v1, v2, v3, v4, v5, v6] rest hM hy hl rfl rfl (Nat.le_of_ble_eq_true hw) (xf_ble hR) hd (fun v u h => by obtain ⟨rfl, rfl⟩ := h; exact kk)
theorem xf_T6v (hX : xf_ok X l own cc nL fr lo wf D tys) (np : Nat) (hp : pc + 3 = np) {v1 v2 v3 v4 v5 v6 : Value} (hM : xf_F l y cc' nL' ret' fr' lo' wf D tys [v1, v2, v3, v4, v5, v6] σ none σ') (hy : xf_sta y cc' nL' ret' 6) {host : String} (hl : Cond.methodLinkNest own idx y host ∈ xf_NL) (hw : Nat.ble ((rest.map fun v => v.category).sum) 8 = true) (hR : (Nat.ble (fr' + 1) fr && Nat.ble (8 + (nL' + 11) + lo') lo) = true) (hd : decode cc pc = .ok (.invokestatic idx, 3)) (kk : xf_V X np L rest σ') : xf_V X pc L (v6 :: v5 :: v4 :: v3 :: v2 :: v1 :: rest) σ := by
  exact xf_callSN hX np hp [v1, v2, v3, v4, v5, v6] rest hM hy hl rfl rfl (Nat.le_of_ble_eq_true hw) (xf_ble hR) hd (fun v u h => by obtain ⟨rfl, rfl⟩ := h; exact kk)
theorem xf_T6r (hX : xf_ok X l own cc nL fr lo wf D tys) (np : Nat) (hp : pc + 3 = np) {v1 v2 v3 v4 v5 v6 : Value} (hM : xf_M l y cc' nL' ret' fr' lo' wf D tys [v1, v2, v3, v4, v5, v6] σ rq) (hy : xf_sta y cc' nL' ret' 6) {host : String} (hl : Cond.methodLinkNest own idx y host ∈ xf_NL) (hw : Nat.ble ((rest.map fun v => v.category).sum) 8 = true) (hR : (Nat.ble (fr' + 1) fr && Nat.ble (8 + (nL' + 11) + lo') lo) = true) (hd : decode cc pc = .ok (.invokestatic idx, 3)) (kk : ∀ (v : Option Value) (u : xf_S), rq v u → xf_V X np L (v.toList ++ rest) u) : xf_V X pc L (v6 :: v5 :: v4 :: v3 :: v2 :: v1 :: rest) σ := by
  exact xf_callSN hX np hp [v1, v2, v3, v4, v5, v6] rest hM hy hl rfl rfl (Nat.le_of_ble_eq_true hw) (xf_ble hR) hd kk
end XFW
end
section
theorem xf_mt {w : Cond} (K : Nat) (h : tables_1[K]? = some w) (g : goodWord w = true) : w ∈ xf_GW := List.mem_filter.mpr ⟨List.mem_append_right _ (List.mem_of_getElem? h), g⟩
theorem xf_ms {w : Cond} (K : Nat) (h : (k2_sels lw_privs)[K]? = some w) (g : goodWord w = true) : w ∈ xf_GW := List.mem_filter.mpr ⟨List.mem_append_left _ (List.mem_of_getElem? h), g⟩
theorem xf_mn {w : Cond} (K : Nat) (h : tables_1[K]? = some w) (g : xf_nest w = true) : w ∈ xf_NL := List.mem_filter.mpr ⟨List.mem_append_right _ (List.mem_of_getElem? h), g⟩
theorem xin_SC : ∀ w ∈ u_ws xnR_SC xnT_SC 4, w ∈ xf_GW := by
  intro w hw
  obtain ⟨k, hk, rfl⟩ := List.mem_map.mp hw
  have hk := List.mem_range.mp hk
  have h9 : k = 0 ∨ k = 1 ∨ k = 2 ∨ k = 3 := by omega
  rcases h9 with rfl | rfl | rfl | rfl
  · exact xf_mt 258 (by decide +kernel) (by decide +kernel)
  · exact xf_mt 260 (by decide +kernel) (by decide +kernel)
  · exact xf_mt 262 (by decide +kernel) (by decide +kernel)
  · exact xf_mt 264 (by decide +kernel) (by decide +kernel)
theorem xin_TA : ∀ w ∈ u_ws xnR_TA xnT_TA 6, w ∈ xf_GW := by
  intro w hw
  obtain ⟨k, hk, rfl⟩ := List.mem_map.mp hw
  have hk := List.mem_range.mp hk
  have h9 : k = 0 ∨ k = 1 ∨ k = 2 ∨ k = 3 ∨ k = 4 ∨ k = 5 := by omega
  rcases h9 with rfl | rfl | rfl | rfl | rfl | rfl
  · exact xf_mt 35 (by decide +kernel) (by decide +kernel)
  · exact xf_mt 37 (by decide +kernel) (by decide +kernel)
  · exact xf_mt 39 (by decide +kernel) (by decide +kernel)
  · exact xf_mt 41 (by decide +kernel) (by decide +kernel)
  · exact xf_mt 43 (by decide +kernel) (by decide +kernel)
  · exact xf_mt 45 (by decide +kernel) (by decide +kernel)
theorem xin_ST : ∀ w ∈ u_ws xnR_ST xnT_ST 14, w ∈ xf_GW := by
  intro w hw
  obtain ⟨k, hk, rfl⟩ := List.mem_map.mp hw
  have hk := List.mem_range.mp hk
  have h9 : k = 0 ∨ k = 1 ∨ k = 2 ∨ k = 3 ∨ k = 4 ∨ k = 5 ∨ k = 6 ∨ k = 7 ∨ k = 8 ∨ k = 9 ∨ k = 10 ∨ k = 11 ∨ k = 12 ∨ k = 13 := by omega
  rcases h9 with rfl | rfl | rfl | rfl | rfl | rfl | rfl | rfl | rfl | rfl | rfl | rfl | rfl | rfl
  · exact xf_mt 101 (by decide +kernel) (by decide +kernel)
  · exact xf_mt 103 (by decide +kernel) (by decide +kernel)
  · exact xf_mt 105 (by decide +kernel) (by decide +kernel)
  · exact xf_mt 107 (by decide +kernel) (by decide +kernel)
  · exact xf_mt 109 (by decide +kernel) (by decide +kernel)
  · exact xf_mt 111 (by decide +kernel) (by decide +kernel)
  · exact xf_mt 113 (by decide +kernel) (by decide +kernel)
  · exact xf_mt 115 (by decide +kernel) (by decide +kernel)
  · exact xf_mt 117 (by decide +kernel) (by decide +kernel)
  · exact xf_mt 119 (by decide +kernel) (by decide +kernel)
  · exact xf_mt 121 (by decide +kernel) (by decide +kernel)
  · exact xf_mt 123 (by decide +kernel) (by decide +kernel)
  · exact xf_mt 125 (by decide +kernel) (by decide +kernel)
  · exact xf_mt 127 (by decide +kernel) (by decide +kernel)
theorem xin_WR : ∀ w ∈ u_ws xnR_WR xnT_WR 13, w ∈ xf_GW := by
  intro w hw
  obtain ⟨k, hk, rfl⟩ := List.mem_map.mp hw
  have hk := List.mem_range.mp hk
  have h9 : k = 0 ∨ k = 1 ∨ k = 2 ∨ k = 3 ∨ k = 4 ∨ k = 5 ∨ k = 6 ∨ k = 7 ∨ k = 8 ∨ k = 9 ∨ k = 10 ∨ k = 11 ∨ k = 12 := by omega
  rcases h9 with rfl | rfl | rfl | rfl | rfl | rfl | rfl | rfl | rfl | rfl | rfl | rfl | rfl
  · exact xf_mt 183 (by decide +kernel) (by decide +kernel)
  · exact xf_mt 185 (by decide +kernel) (by decide +kernel)
  · exact xf_mt 187 (by decide +kernel) (by decide +kernel)
  · exact xf_mt 189 (by decide +kernel) (by decide +kernel)
  · exact xf_mt 191 (by decide +kernel) (by decide +kernel)
  · exact xf_mt 193 (by decide +kernel) (by decide +kernel)
  · exact xf_mt 195 (by decide +kernel) (by decide +kernel)
  · exact xf_mt 197 (by decide +kernel) (by decide +kernel)
  · exact xf_mt 199 (by decide +kernel) (by decide +kernel)
  · exact xf_mt 201 (by decide +kernel) (by decide +kernel)
  · exact xf_mt 203 (by decide +kernel) (by decide +kernel)
  · exact xf_mt 205 (by decide +kernel) (by decide +kernel)
  · exact xf_mt 207 (by decide +kernel) (by decide +kernel)
theorem xin_PA : ∀ w ∈ u_ws xnR_PA xnT_PA 7, w ∈ xf_GW := by
  intro w hw
  obtain ⟨k, hk, rfl⟩ := List.mem_map.mp hw
  have hk := List.mem_range.mp hk
  have h9 : k = 0 ∨ k = 1 ∨ k = 2 ∨ k = 3 ∨ k = 4 ∨ k = 5 ∨ k = 6 := by omega
  rcases h9 with rfl | rfl | rfl | rfl | rfl | rfl | rfl
  · exact xf_mt 153 (by decide +kernel) (by decide +kernel)
  · exact xf_mt 155 (by decide +kernel) (by decide +kernel)
  · exact xf_mt 157 (by decide +kernel) (by decide +kernel)
  · exact xf_mt 159 (by decide +kernel) (by decide +kernel)
  · exact xf_mt 161 (by decide +kernel) (by decide +kernel)
  · exact xf_mt 163 (by decide +kernel) (by decide +kernel)
  · exact xf_mt 165 (by decide +kernel) (by decide +kernel)
theorem xin_RD : ∀ w ∈ u_ws xnR_RD xnT_RD 11, w ∈ xf_GW := by
  intro w hw
  obtain ⟨k, hk, rfl⟩ := List.mem_map.mp hw
  have hk := List.mem_range.mp hk
  have h9 : k = 0 ∨ k = 1 ∨ k = 2 ∨ k = 3 ∨ k = 4 ∨ k = 5 ∨ k = 6 ∨ k = 7 ∨ k = 8 ∨ k = 9 ∨ k = 10 := by omega
  rcases h9 with rfl | rfl | rfl | rfl | rfl | rfl | rfl | rfl | rfl | rfl | rfl
  · exact xf_mt 231 (by decide +kernel) (by decide +kernel)
  · exact xf_mt 233 (by decide +kernel) (by decide +kernel)
  · exact xf_mt 235 (by decide +kernel) (by decide +kernel)
  · exact xf_mt 237 (by decide +kernel) (by decide +kernel)
  · exact xf_mt 239 (by decide +kernel) (by decide +kernel)
  · exact xf_mt 241 (by decide +kernel) (by decide +kernel)
  · exact xf_mt 243 (by decide +kernel) (by decide +kernel)
  · exact xf_mt 245 (by decide +kernel) (by decide +kernel)
  · exact xf_mt 247 (by decide +kernel) (by decide +kernel)
  · exact xf_mt 249 (by decide +kernel) (by decide +kernel)
  · exact xf_mt 251 (by decide +kernel) (by decide +kernel)
theorem xin_MO : ∀ w ∈ u_ws xnR_MO xnT_MO 38, w ∈ xf_GW := by
  intro w hw
  obtain ⟨k, hk, rfl⟩ := List.mem_map.mp hw
  have hk := List.mem_range.mp hk
  have h9 : k = 0 ∨ k = 1 ∨ k = 2 ∨ k = 3 ∨ k = 4 ∨ k = 5 ∨ k = 6 ∨ k = 7 ∨ k = 8 ∨ k = 9 ∨ k = 10 ∨ k = 11 ∨ k = 12 ∨ k = 13 ∨ k = 14 ∨ k = 15 ∨ k = 16 ∨ k = 17 ∨ k = 18 ∨ k = 19 ∨ k = 20 ∨ k = 21 ∨ k = 22 ∨ k = 23 ∨ k = 24 ∨ k = 25 ∨ k = 26 ∨ k = 27 ∨ k = 28 ∨ k = 29 ∨ k = 30 ∨ k = 31 ∨ k = 32 ∨ k = 33 ∨ k = 34 ∨ k = 35 ∨ k = 36 ∨ k = 37 := by omega
  rcases h9 with rfl | rfl | rfl | rfl | rfl | rfl | rfl | rfl | rfl | rfl | rfl | rfl | rfl | rfl | rfl | rfl | rfl | rfl | rfl | rfl | rfl | rfl | rfl | rfl | rfl | rfl | rfl | rfl | rfl | rfl | rfl | rfl | rfl | rfl | rfl | rfl | rfl | rfl
  · exact xf_mt 581 (by decide +kernel) (by decide +kernel)
  · exact xf_mt 583 (by decide +kernel) (by decide +kernel)
  · exact xf_mt 585 (by decide +kernel) (by decide +kernel)
  · exact xf_mt 587 (by decide +kernel) (by decide +kernel)
  · exact xf_mt 589 (by decide +kernel) (by decide +kernel)
  · exact xf_mt 591 (by decide +kernel) (by decide +kernel)
  · exact xf_mt 593 (by decide +kernel) (by decide +kernel)
  · exact xf_mt 595 (by decide +kernel) (by decide +kernel)
  · exact xf_mt 597 (by decide +kernel) (by decide +kernel)
  · exact xf_mt 599 (by decide +kernel) (by decide +kernel)
  · exact xf_mt 601 (by decide +kernel) (by decide +kernel)
  · exact xf_mt 603 (by decide +kernel) (by decide +kernel)
  · exact xf_mt 605 (by decide +kernel) (by decide +kernel)
  · exact xf_mt 607 (by decide +kernel) (by decide +kernel)
  · exact xf_mt 609 (by decide +kernel) (by decide +kernel)
  · exact xf_mt 611 (by decide +kernel) (by decide +kernel)
  · exact xf_mt 613 (by decide +kernel) (by decide +kernel)
  · exact xf_mt 615 (by decide +kernel) (by decide +kernel)
  · exact xf_mt 617 (by decide +kernel) (by decide +kernel)
  · exact xf_mt 619 (by decide +kernel) (by decide +kernel)
  · exact xf_mt 621 (by decide +kernel) (by decide +kernel)
  · exact xf_mt 623 (by decide +kernel) (by decide +kernel)
  · exact xf_mt 625 (by decide +kernel) (by decide +kernel)
  · exact xf_mt 627 (by decide +kernel) (by decide +kernel)
  · exact xf_mt 629 (by decide +kernel) (by decide +kernel)
  · exact xf_mt 631 (by decide +kernel) (by decide +kernel)
  · exact xf_mt 633 (by decide +kernel) (by decide +kernel)
  · exact xf_mt 635 (by decide +kernel) (by decide +kernel)
  · exact xf_mt 637 (by decide +kernel) (by decide +kernel)
  · exact xf_mt 639 (by decide +kernel) (by decide +kernel)
  · exact xf_mt 641 (by decide +kernel) (by decide +kernel)
  · exact xf_mt 643 (by decide +kernel) (by decide +kernel)
  · exact xf_mt 645 (by decide +kernel) (by decide +kernel)
  · exact xf_mt 647 (by decide +kernel) (by decide +kernel)
  · exact xf_mt 649 (by decide +kernel) (by decide +kernel)
  · exact xf_mt 651 (by decide +kernel) (by decide +kernel)
  · exact xf_mt 653 (by decide +kernel) (by decide +kernel)
  · exact xf_mt 655 (by decide +kernel) (by decide +kernel)
theorem xk_SC_9 : Cond.methodLinkNest xnR_SC 9 xny_TA_init "SteppedCache" ∈ xf_NL := xf_mn 19 (by decide +kernel) (by decide +kernel)
theorem xk_SC_10 : Cond.fieldLink xnR_SC 10 (xnT_SC 0).1 (xnT_SC 0).2.1 (xnT_SC 0).2.2.1 ∈ xf_GW := xf_mt 254 (by decide +kernel) (by decide +kernel)
theorem xk_SC_18 : Cond.methodLink xnR_SC 18 xny_SC_isWithin ∈ xf_GW := xf_mt 50 (by decide +kernel) (by decide +kernel)
theorem xk_SC_22 : Cond.methodLink xnR_SC 22 xny_ST_init ∈ xf_GW := xf_mt 53 (by decide +kernel) (by decide +kernel)
theorem xk_SC_25 : Cond.fieldLink xnR_SC 25 (xnT_SC 1).1 (xnT_SC 1).2.1 (xnT_SC 1).2.2.1 ∈ xf_GW := xf_mt 255 (by decide +kernel) (by decide +kernel)
theorem xk_SC_31 : Cond.methodLink xnR_SC 31 xny_WR_init ∈ xf_GW := xf_mt 134 (by decide +kernel) (by decide +kernel)
theorem xk_SC_34 : Cond.fieldLink xnR_SC 34 (xnT_SC 2).1 (xnT_SC 2).2.1 (xnT_SC 2).2.2.1 ∈ xf_GW := xf_mt 256 (by decide +kernel) (by decide +kernel)
theorem xk_SC_40 : Cond.fieldLink xnR_SC 40 (xnT_SC 3).1 (xnT_SC 3).2.1 (xnT_SC 3).2.2.1 ∈ xf_GW := xf_mt 257 (by decide +kernel) (by decide +kernel)
theorem xk_SC_44 : Cond.methodLink xnR_SC 44 xny_RD_init ∈ xf_GW := xf_mt 213 (by decide +kernel) (by decide +kernel)
theorem xk_SC_47 : Cond.methodLink xnR_SC 47 xny_WR_isUnderWay ∈ xf_GW := xf_mt 271 (by decide +kernel) (by decide +kernel)
theorem xk_SC_51 : Cond.methodLink xnR_SC 51 xny_WR_begin ∈ xf_GW := xf_mt 275 (by decide +kernel) (by decide +kernel)
theorem xk_SC_55 : Cond.methodLink xnR_SC 55 xny_WR_goOn ∈ xf_GW := xf_mt 283 (by decide +kernel) (by decide +kernel)
theorem xk_SC_58 : Cond.fieldLink xnR_SC 58 (xnT_WR 3).1 (xnT_WR 3).2.1 (xnT_WR 3).2.2.1 ∈ xf_GW := xf_mt 172 (by decide +kernel) (by decide +kernel)
theorem xk_SC_62 : Cond.methodLink xnR_SC 62 xny_SC_isReader ∈ xf_GW := xf_mt 422 (by decide +kernel) (by decide +kernel)
theorem xk_SC_66 : Cond.methodLink xnR_SC 66 xny_RD_isUnderWay ∈ xf_GW := xf_mt 425 (by decide +kernel) (by decide +kernel)
theorem xk_SC_67 : Cond.methodLink xnR_SC 67 xny_RD_begin ∈ xf_GW := xf_mt 430 (by decide +kernel) (by decide +kernel)
theorem xk_SC_70 : Cond.methodLink xnR_SC 70 xny_RD_goOn ∈ xf_GW := xf_mt 438 (by decide +kernel) (by decide +kernel)
theorem xk_SC_71 : Cond.fieldLink xnR_SC 71 (xnT_RD 3).1 (xnT_RD 3).2.1 (xnT_RD 3).2.2.1 ∈ xf_GW := xf_mt 221 (by decide +kernel) (by decide +kernel)
theorem xk_SC_74 : Cond.methodLink xnR_SC 74 xny_SC_isHit ∈ xf_GW := xf_mt 484 (by decide +kernel) (by decide +kernel)
theorem xk_SC_77 : Cond.fieldLink xnR_SC 77 (xnT_RD 4).1 (xnT_RD 4).2.1 (xnT_RD 4).2.2.1 ∈ xf_GW := xf_mt 223 (by decide +kernel) (by decide +kernel)
theorem xk_SC_80 : Cond.fieldLink xnR_SC 80 (xnT_RD 5).1 (xnT_RD 5).2.1 (xnT_RD 5).2.2.1 ∈ xf_GW := xf_mt 225 (by decide +kernel) (by decide +kernel)
theorem xk_SC_83 : Cond.fieldLink xnR_SC 83 (xnT_ST 12).1 (xnT_ST 12).2.1 (xnT_ST 12).2.2.1 ∈ xf_GW := xf_mt 98 (by decide +kernel) (by decide +kernel)
theorem xk_SC_86 : Cond.methodLink xnR_SC 86 xny_ST_find ∈ xf_GW := xf_mt 500 (by decide +kernel) (by decide +kernel)
theorem xk_SC_90 : Cond.fieldLink xnR_SC 90 (xnT_ST 3).1 (xnT_ST 3).2.1 (xnT_ST 3).2.2.1 ∈ xf_GW := xf_mt 70 (by decide +kernel) (by decide +kernel)
theorem xk_SC_94 : Cond.methodLink xnR_SC 94 xny_SC_isUsedItem ∈ xf_GW := xf_mt 512 (by decide +kernel) (by decide +kernel)
theorem xk_SC_97 : Cond.fieldLink xnR_SC 97 (xnT_ST 4).1 (xnT_ST 4).2.1 (xnT_ST 4).2.2.1 ∈ xf_GW := xf_mt 73 (by decide +kernel) (by decide +kernel)
theorem xk_SC_100 : Cond.fieldLink xnR_SC 100 (xnT_ST 5).1 (xnT_ST 5).2.1 (xnT_ST 5).2.2.1 ∈ xf_GW := xf_mt 78 (by decide +kernel) (by decide +kernel)
theorem xk_SC_103 : Cond.fieldLink xnR_SC 103 (xnT_ST 6).1 (xnT_ST 6).2.1 (xnT_ST 6).2.2.1 ∈ xf_GW := xf_mt 82 (by decide +kernel) (by decide +kernel)
theorem xk_SC_106 : Cond.fieldLink xnR_SC 106 (xnT_ST 7).1 (xnT_ST 7).2.1 (xnT_ST 7).2.2.1 ∈ xf_GW := xf_mt 86 (by decide +kernel) (by decide +kernel)
theorem xk_SC_109 : Cond.fieldLink xnR_SC 109 (xnT_ST 8).1 (xnT_ST 8).2.1 (xnT_ST 8).2.2.1 ∈ xf_GW := xf_mt 90 (by decide +kernel) (by decide +kernel)
theorem xk_SC_113 : Cond.fieldLink xnR_SC 113 (xnT_ST 10).1 (xnT_ST 10).2.1 (xnT_ST 10).2.2.1 ∈ xf_GW := xf_mt 94 (by decide +kernel) (by decide +kernel)
theorem xk_SC_116 : Cond.methodLink xnR_SC 116 xny_SC_firstBucket ∈ xf_GW := xf_mt 316 (by decide +kernel) (by decide +kernel)
theorem xk_SC_119 : Cond.methodLink xnR_SC 119 xny_SC_secondBucket ∈ xf_GW := xf_mt 528 (by decide +kernel) (by decide +kernel)
theorem xk_SC_122 : Cond.methodLink xnR_SC 122 xny_SC_tagOf ∈ xf_GW := xf_mt 320 (by decide +kernel) (by decide +kernel)
theorem xk_SC_125 : Cond.methodLink xnR_SC 125 xny_SC_stripeOf ∈ xf_GW := xf_mt 529 (by decide +kernel) (by decide +kernel)
theorem xk_SC_128 : Cond.fieldLink xnR_SC 128 (xnT_ST 11).1 (xnT_ST 11).2.1 (xnT_ST 11).2.2.1 ∈ xf_GW := xf_mt 96 (by decide +kernel) (by decide +kernel)
theorem xk_SC_131 : Cond.fieldLink xnR_SC 131 (xnT_TA 0).1 (xnT_TA 0).2.1 (xnT_TA 0).2.2.1 ∈ xf_GW := xf_mt 24 (by decide +kernel) (by decide +kernel)
theorem xk_SC_134 : Cond.fieldLink xnR_SC 134 (xnT_TA 1).1 (xnT_TA 1).2.1 (xnT_TA 1).2.2.1 ∈ xf_GW := xf_mt 26 (by decide +kernel) (by decide +kernel)
theorem xk_SC_137 : Cond.fieldLink xnR_SC 137 (xnT_TA 2).1 (xnT_TA 2).2.1 (xnT_TA 2).2.2.1 ∈ xf_GW := xf_mt 28 (by decide +kernel) (by decide +kernel)
theorem xk_SC_140 : Cond.fieldLink xnR_SC 140 (xnT_TA 3).1 (xnT_TA 3).2.1 (xnT_TA 3).2.2.1 ∈ xf_GW := xf_mt 30 (by decide +kernel) (by decide +kernel)
theorem xk_SC_143 : Cond.fieldLink xnR_SC 143 (xnT_TA 4).1 (xnT_TA 4).2.1 (xnT_TA 4).2.2.1 ∈ xf_GW := xf_mt 32 (by decide +kernel) (by decide +kernel)
theorem xk_SC_146 : Cond.fieldLink xnR_SC 146 (xnT_TA 5).1 (xnT_TA 5).2.1 (xnT_TA 5).2.2.1 ∈ xf_GW := xf_mt 34 (by decide +kernel) (by decide +kernel)
theorem xk_SC_149 : Cond.fieldLink xnR_SC 149 (xnT_WR 4).1 (xnT_WR 4).2.1 (xnT_WR 4).2.2.1 ∈ xf_GW := xf_mt 174 (by decide +kernel) (by decide +kernel)
theorem xk_SC_152 : Cond.fieldLink xnR_SC 152 (xnT_ST 13).1 (xnT_ST 13).2.1 (xnT_ST 13).2.2.1 ∈ xf_GW := xf_mt 100 (by decide +kernel) (by decide +kernel)
theorem xk_SC_155 : Cond.fieldLink xnR_SC 155 (xnT_ST 1).1 (xnT_ST 1).2.1 (xnT_ST 1).2.2.1 ∈ xf_GW := xf_mt 63 (by decide +kernel) (by decide +kernel)
theorem xk_SC_158 : Cond.fieldLink xnR_SC 158 (xnT_ST 9).1 (xnT_ST 9).2.1 (xnT_ST 9).2.2.1 ∈ xf_GW := xf_mt 92 (by decide +kernel) (by decide +kernel)
theorem xkc_SC_161 : Cond.constant xnR_SC 161 (1368264107) ∈ xf_GW := xf_mt 301 (by decide +kernel) (by decide +kernel)
theorem xk_SC_162 : Cond.methodLink xnR_SC 162 xny_SC_mix ∈ xf_GW := xf_mt 298 (by decide +kernel) (by decide +kernel)
theorem xk_SC_165 : Cond.methodLink xnR_SC 165 xny_SC_otherBucket ∈ xf_GW := xf_mt 317 (by decide +kernel) (by decide +kernel)
theorem xk_PA_9 : Cond.fieldLink xnR_PA 9 (xnT_PA 0).1 (xnT_PA 0).2.1 (xnT_PA 0).2.2.1 ∈ xf_GW := xf_mt 144 (by decide +kernel) (by decide +kernel)
theorem xk_PA_15 : Cond.fieldLink xnR_PA 15 (xnT_PA 1).1 (xnT_PA 1).2.1 (xnT_PA 1).2.2.1 ∈ xf_GW := xf_mt 145 (by decide +kernel) (by decide +kernel)
theorem xk_PA_19 : Cond.fieldLink xnR_PA 19 (xnT_ST 3).1 (xnT_ST 3).2.1 (xnT_ST 3).2.2.1 ∈ xf_GW := xf_mt 66 (by decide +kernel) (by decide +kernel)
theorem xk_PA_24 : Cond.fieldLink xnR_PA 24 (xnT_PA 3).1 (xnT_PA 3).2.1 (xnT_PA 3).2.2.1 ∈ xf_GW := xf_mt 149 (by decide +kernel) (by decide +kernel)
theorem xk_PA_27 : Cond.fieldLink xnR_PA 27 (xnT_PA 4).1 (xnT_PA 4).2.1 (xnT_PA 4).2.2.1 ∈ xf_GW := xf_mt 150 (by decide +kernel) (by decide +kernel)
theorem xk_PA_30 : Cond.fieldLink xnR_PA 30 (xnT_PA 5).1 (xnT_PA 5).2.1 (xnT_PA 5).2.2.1 ∈ xf_GW := xf_mt 151 (by decide +kernel) (by decide +kernel)
theorem xk_PA_33 : Cond.fieldLink xnR_PA 33 (xnT_PA 6).1 (xnT_PA 6).2.1 (xnT_PA 6).2.2.1 ∈ xf_GW := xf_mt 152 (by decide +kernel) (by decide +kernel)
theorem xk_PA_37 : Cond.methodLink xnR_PA 37 xny_AR_fill ∈ xf_GW := xf_mt 377 (by decide +kernel) (by decide +kernel)
theorem xk_PA_43 : Cond.methodLinkNest xnR_PA 43 xny_SC_firstBucket "SteppedCache" ∈ xf_NL := xf_mn 378 (by decide +kernel) (by decide +kernel)
theorem xk_PA_47 : Cond.methodLink xnR_PA 47 xny_PA_enter ∈ xf_GW := xf_mt 379 (by decide +kernel) (by decide +kernel)
theorem xk_PA_51 : Cond.methodLinkNest xnR_PA 51 xny_SC_secondBucket "SteppedCache" ∈ xf_NL := xf_mn 383 (by decide +kernel) (by decide +kernel)
theorem xk_PA_54 : Cond.methodLink xnR_PA 54 xny_PA_keep ∈ xf_GW := xf_mt 384 (by decide +kernel) (by decide +kernel)
theorem xk_PA_58 : Cond.fieldLink xnR_PA 58 (xnT_ST 2).1 (xnT_ST 2).2.1 (xnT_ST 2).2.2.1 ∈ xf_GW := xf_mt 65 (by decide +kernel) (by decide +kernel)
theorem xk_PA_61 : Cond.fieldLink xnR_PA 61 (xnT_ST 4).1 (xnT_ST 4).2.1 (xnT_ST 4).2.2.1 ∈ xf_GW := xf_mt 72 (by decide +kernel) (by decide +kernel)
theorem xk_PA_64 : Cond.methodLinkNest xnR_PA 64 xny_SC_otherBucket "SteppedCache" ∈ xf_NL := xf_mn 388 (by decide +kernel) (by decide +kernel)
theorem xk_PA_68 : Cond.fieldLink xnR_PA 68 (xnT_PA 2).1 (xnT_PA 2).2.1 (xnT_PA 2).2.2.1 ∈ xf_GW := xf_mt 147 (by decide +kernel) (by decide +kernel)
theorem xk_RD_9 : Cond.fieldLink xnR_RD 9 (xnT_RD 0).1 (xnT_RD 0).2.1 (xnT_RD 0).2.2.1 ∈ xf_GW := xf_mt 217 (by decide +kernel) (by decide +kernel)
theorem xk_RD_15 : Cond.fieldLink xnR_RD 15 (xnT_RD 1).1 (xnT_RD 1).2.1 (xnT_RD 1).2.2.1 ∈ xf_GW := xf_mt 218 (by decide +kernel) (by decide +kernel)
theorem xk_RD_19 : Cond.fieldLink xnR_RD 19 (xnT_RD 2).1 (xnT_RD 2).2.1 (xnT_RD 2).2.2.1 ∈ xf_GW := xf_mt 219 (by decide +kernel) (by decide +kernel)
theorem xk_RD_23 : Cond.fieldLink xnR_RD 23 (xnT_RD 3).1 (xnT_RD 3).2.1 (xnT_RD 3).2.2.1 ∈ xf_GW := xf_mt 220 (by decide +kernel) (by decide +kernel)
theorem xk_RD_27 : Cond.methodLinkNest xnR_RD 27 xny_SC_isWithin "SteppedCache" ∈ xf_NL := xf_mn 429 (by decide +kernel) (by decide +kernel)
theorem xk_RD_31 : Cond.fieldLink xnR_RD 31 (xnT_RD 6).1 (xnT_RD 6).2.1 (xnT_RD 6).2.2.1 ∈ xf_GW := xf_mt 226 (by decide +kernel) (by decide +kernel)
theorem xk_RD_34 : Cond.fieldLink xnR_RD 34 (xnT_RD 7).1 (xnT_RD 7).2.1 (xnT_RD 7).2.2.1 ∈ xf_GW := xf_mt 227 (by decide +kernel) (by decide +kernel)
theorem xk_RD_37 : Cond.methodLink xnR_RD 37 xny_RD_keepVersion ∈ xf_GW := xf_mt 442 (by decide +kernel) (by decide +kernel)
theorem xk_RD_40 : Cond.methodLinkNest xnR_RD 40 xny_SC_firstBucket "SteppedCache" ∈ xf_NL := xf_mn 450 (by decide +kernel) (by decide +kernel)
theorem xk_RD_44 : Cond.methodLink xnR_RD 44 xny_RD_lookInto ∈ xf_GW := xf_mt 451 (by decide +kernel) (by decide +kernel)
theorem xk_RD_48 : Cond.methodLinkNest xnR_RD 48 xny_SC_secondBucket "SteppedCache" ∈ xf_NL := xf_mn 456 (by decide +kernel) (by decide +kernel)
theorem xk_RD_51 : Cond.methodLink xnR_RD 51 xny_RD_copyItem ∈ xf_GW := xf_mt 457 (by decide +kernel) (by decide +kernel)
theorem xk_RD_54 : Cond.methodLink xnR_RD 54 xny_RD_checkVersion ∈ xf_GW := xf_mt 461 (by decide +kernel) (by decide +kernel)
theorem xk_RD_57 : Cond.methodLink xnR_RD 57 xny_RD_readLocked ∈ xf_GW := xf_mt 470 (by decide +kernel) (by decide +kernel)
theorem xk_RD_60 : Cond.methodLink xnR_RD 60 xny_ST_versionFor ∈ xf_GW := xf_mt 446 (by decide +kernel) (by decide +kernel)
theorem xk_RD_65 : Cond.fieldLink xnR_RD 65 (xnT_RD 8).1 (xnT_RD 8).2.1 (xnT_RD 8).2.2.1 ∈ xf_GW := xf_mt 228 (by decide +kernel) (by decide +kernel)
theorem xk_RD_68 : Cond.fieldLink xnR_RD 68 (xnT_TA 3).1 (xnT_TA 3).2.1 (xnT_TA 3).2.2.1 ∈ xf_GW := xf_mt 29 (by decide +kernel) (by decide +kernel)
theorem xk_RD_73 : Cond.methodLink xnR_RD 73 xny_ST_lookUpIn ∈ xf_GW := xf_mt 455 (by decide +kernel) (by decide +kernel)
theorem xk_RD_77 : Cond.fieldLink xnR_RD 77 (xnT_ST 3).1 (xnT_ST 3).2.1 (xnT_ST 3).2.2.1 ∈ xf_GW := xf_mt 69 (by decide +kernel) (by decide +kernel)
theorem xk_RD_81 : Cond.fieldLink xnR_RD 81 (xnT_RD 9).1 (xnT_RD 9).2.1 (xnT_RD 9).2.2.1 ∈ xf_GW := xf_mt 229 (by decide +kernel) (by decide +kernel)
theorem xk_RD_84 : Cond.fieldLink xnR_RD 84 (xnT_ST 5).1 (xnT_ST 5).2.1 (xnT_ST 5).2.2.1 ∈ xf_GW := xf_mt 76 (by decide +kernel) (by decide +kernel)
theorem xk_RD_87 : Cond.fieldLink xnR_RD 87 (xnT_RD 4).1 (xnT_RD 4).2.1 (xnT_RD 4).2.2.1 ∈ xf_GW := xf_mt 222 (by decide +kernel) (by decide +kernel)
theorem xk_RD_90 : Cond.fieldLink xnR_RD 90 (xnT_ST 6).1 (xnT_ST 6).2.1 (xnT_ST 6).2.2.1 ∈ xf_GW := xf_mt 81 (by decide +kernel) (by decide +kernel)
theorem xk_RD_93 : Cond.fieldLink xnR_RD 93 (xnT_RD 5).1 (xnT_RD 5).2.1 (xnT_RD 5).2.2.1 ∈ xf_GW := xf_mt 224 (by decide +kernel) (by decide +kernel)
theorem xk_RD_96 : Cond.fieldLink xnR_RD 96 (xnT_ST 7).1 (xnT_ST 7).2.1 (xnT_ST 7).2.2.1 ∈ xf_GW := xf_mt 85 (by decide +kernel) (by decide +kernel)
theorem xk_RD_99 : Cond.fieldLink xnR_RD 99 (xnT_RD 10).1 (xnT_RD 10).2.1 (xnT_RD 10).2.2.1 ∈ xf_GW := xf_mt 230 (by decide +kernel) (by decide +kernel)
theorem xk_RD_102 : Cond.fieldLink xnR_RD 102 (xnT_TA 2).1 (xnT_TA 2).2.1 (xnT_TA 2).2.2.1 ∈ xf_GW := xf_mt 27 (by decide +kernel) (by decide +kernel)
theorem xk_RD_103 : Cond.methodLink xnR_RD 103 xny_ST_isOver ∈ xf_GW := xf_mt 465 (by decide +kernel) (by decide +kernel)
theorem xk_RD_107 : Cond.methodLink xnR_RD 107 xny_RD_end ∈ xf_GW := xf_mt 466 (by decide +kernel) (by decide +kernel)
theorem xk_RD_111 : Cond.methodLink xnR_RD 111 xny_WR_isUnderWay ∈ xf_GW := xf_mt 474 (by decide +kernel) (by decide +kernel)
theorem xk_RD_117 : Cond.methodLink xnR_RD 117 xny_ST_lookUp ∈ xf_GW := xf_mt 475 (by decide +kernel) (by decide +kernel)
theorem xk_RD_120 : Cond.fieldLink xnR_RD 120 (xnT_ST 8).1 (xnT_ST 8).2.1 (xnT_ST 8).2.2.1 ∈ xf_GW := xf_mt 88 (by decide +kernel) (by decide +kernel)
theorem xk_ST_9 : Cond.fieldLink xnR_ST 9 (xnT_ST 0).1 (xnT_ST 0).2.1 (xnT_ST 0).2.2.1 ∈ xf_GW := xf_mt 60 (by decide +kernel) (by decide +kernel)
theorem xk_ST_15 : Cond.fieldLink xnR_ST 15 (xnT_ST 1).1 (xnT_ST 1).2.1 (xnT_ST 1).2.2.1 ∈ xf_GW := xf_mt 61 (by decide +kernel) (by decide +kernel)
theorem xk_ST_19 : Cond.fieldLink xnR_ST 19 (xnT_ST 2).1 (xnT_ST 2).2.1 (xnT_ST 2).2.2.1 ∈ xf_GW := xf_mt 64 (by decide +kernel) (by decide +kernel)
theorem xk_ST_22 : Cond.fieldLink xnR_ST 22 (xnT_ST 3).1 (xnT_ST 3).2.1 (xnT_ST 3).2.2.1 ∈ xf_GW := xf_mt 67 (by decide +kernel) (by decide +kernel)
theorem xk_ST_26 : Cond.methodLink xnR_ST 26 xny_AR_fill ∈ xf_GW := xf_mt 57 (by decide +kernel) (by decide +kernel)
theorem xk_ST_32 : Cond.fieldLink xnR_ST 32 (xnT_ST 4).1 (xnT_ST 4).2.1 (xnT_ST 4).2.2.1 ∈ xf_GW := xf_mt 71 (by decide +kernel) (by decide +kernel)
theorem xk_ST_35 : Cond.fieldLink xnR_ST 35 (xnT_ST 5).1 (xnT_ST 5).2.1 (xnT_ST 5).2.2.1 ∈ xf_GW := xf_mt 75 (by decide +kernel) (by decide +kernel)
theorem xk_ST_38 : Cond.fieldLink xnR_ST 38 (xnT_ST 6).1 (xnT_ST 6).2.1 (xnT_ST 6).2.2.1 ∈ xf_GW := xf_mt 79 (by decide +kernel) (by decide +kernel)
theorem xk_ST_41 : Cond.fieldLink xnR_ST 41 (xnT_ST 7).1 (xnT_ST 7).2.1 (xnT_ST 7).2.2.1 ∈ xf_GW := xf_mt 83 (by decide +kernel) (by decide +kernel)
theorem xk_ST_44 : Cond.fieldLink xnR_ST 44 (xnT_ST 8).1 (xnT_ST 8).2.1 (xnT_ST 8).2.2.1 ∈ xf_GW := xf_mt 87 (by decide +kernel) (by decide +kernel)
theorem xk_ST_48 : Cond.fieldLink xnR_ST 48 (xnT_ST 9).1 (xnT_ST 9).2.1 (xnT_ST 9).2.2.1 ∈ xf_GW := xf_mt 91 (by decide +kernel) (by decide +kernel)
theorem xk_ST_51 : Cond.fieldLink xnR_ST 51 (xnT_ST 10).1 (xnT_ST 10).2.1 (xnT_ST 10).2.2.1 ∈ xf_GW := xf_mt 93 (by decide +kernel) (by decide +kernel)
theorem xk_ST_54 : Cond.fieldLink xnR_ST 54 (xnT_ST 11).1 (xnT_ST 11).2.1 (xnT_ST 11).2.2.1 ∈ xf_GW := xf_mt 95 (by decide +kernel) (by decide +kernel)
theorem xk_ST_57 : Cond.fieldLink xnR_ST 57 (xnT_ST 12).1 (xnT_ST 12).2.1 (xnT_ST 12).2.2.1 ∈ xf_GW := xf_mt 97 (by decide +kernel) (by decide +kernel)
theorem xk_ST_60 : Cond.methodLinkNest xnR_ST 60 xny_SC_firstBucket "SteppedCache" ∈ xf_NL := xf_mn 295 (by decide +kernel) (by decide +kernel)
theorem xk_ST_64 : Cond.methodLink xnR_ST 64 xny_ST_findIn ∈ xf_GW := xf_mt 306 (by decide +kernel) (by decide +kernel)
theorem xk_ST_68 : Cond.methodLinkNest xnR_ST 68 xny_SC_secondBucket "SteppedCache" ∈ xf_NL := xf_mn 313 (by decide +kernel) (by decide +kernel)
theorem xk_ST_71 : Cond.methodLink xnR_ST 71 xny_ST_lookUpIn ∈ xf_GW := xf_mt 302 (by decide +kernel) (by decide +kernel)
theorem xk_ST_74 : Cond.methodLinkNest xnR_ST 74 xny_SC_tagOf "SteppedCache" ∈ xf_NL := xf_mn 310 (by decide +kernel) (by decide +kernel)
theorem xk_ST_77 : Cond.fieldLink xnR_ST 77 (xnT_TA 4).1 (xnT_TA 4).2.1 (xnT_TA 4).2.2.1 ∈ xf_GW := xf_mt 31 (by decide +kernel) (by decide +kernel)
theorem xk_ST_82 : Cond.methodLinkNest xnR_ST 82 xny_SC_stripeOf "SteppedCache" ∈ xf_NL := xf_mn 333 (by decide +kernel) (by decide +kernel)
theorem xk_ST_85 : Cond.methodLink xnR_ST 85 xny_ST_growVersion ∈ xf_GW := xf_mt 329 (by decide +kernel) (by decide +kernel)
theorem xk_ST_89 : Cond.fieldLink xnR_ST 89 (xnT_ST 13).1 (xnT_ST 13).2.1 (xnT_ST 13).2.2.1 ∈ xf_GW := xf_mt 99 (by decide +kernel) (by decide +kernel)
theorem xk_ST_92 : Cond.methodLink xnR_ST 92 xny_ST_lowestFree ∈ xf_GW := xf_mt 409 (by decide +kernel) (by decide +kernel)
theorem xk_ST_96 : Cond.methodLink xnR_ST 96 xny_ST_renew ∈ xf_GW := xf_mt 413 (by decide +kernel) (by decide +kernel)
theorem xk_WR_9 : Cond.fieldLink xnR_WR 9 (xnT_WR 0).1 (xnT_WR 0).2.1 (xnT_WR 0).2.2.1 ∈ xf_GW := xf_mt 168 (by decide +kernel) (by decide +kernel)
theorem xk_WR_15 : Cond.fieldLink xnR_WR 15 (xnT_WR 1).1 (xnT_WR 1).2.1 (xnT_WR 1).2.2.1 ∈ xf_GW := xf_mt 169 (by decide +kernel) (by decide +kernel)
theorem xk_WR_21 : Cond.methodLink xnR_WR 21 xny_PA_init ∈ xf_GW := xf_mt 140 (by decide +kernel) (by decide +kernel)
theorem xk_WR_24 : Cond.fieldLink xnR_WR 24 (xnT_WR 2).1 (xnT_WR 2).2.1 (xnT_WR 2).2.2.1 ∈ xf_GW := xf_mt 170 (by decide +kernel) (by decide +kernel)
theorem xk_WR_28 : Cond.fieldLink xnR_WR 28 (xnT_WR 3).1 (xnT_WR 3).2.1 (xnT_WR 3).2.2.1 ∈ xf_GW := xf_mt 171 (by decide +kernel) (by decide +kernel)
theorem xk_WR_32 : Cond.fieldLink xnR_WR 32 (xnT_WR 5).1 (xnT_WR 5).2.1 (xnT_WR 5).2.2.1 ∈ xf_GW := xf_mt 175 (by decide +kernel) (by decide +kernel)
theorem xk_WR_35 : Cond.fieldLink xnR_WR 35 (xnT_WR 6).1 (xnT_WR 6).2.1 (xnT_WR 6).2.2.1 ∈ xf_GW := xf_mt 176 (by decide +kernel) (by decide +kernel)
theorem xk_WR_38 : Cond.fieldLink xnR_WR 38 (xnT_WR 7).1 (xnT_WR 7).2.1 (xnT_WR 7).2.2.1 ∈ xf_GW := xf_mt 177 (by decide +kernel) (by decide +kernel)
theorem xk_WR_41 : Cond.fieldLink xnR_WR 41 (xnT_WR 8).1 (xnT_WR 8).2.1 (xnT_WR 8).2.2.1 ∈ xf_GW := xf_mt 178 (by decide +kernel) (by decide +kernel)
theorem xk_WR_44 : Cond.fieldLink xnR_WR 44 (xnT_WR 9).1 (xnT_WR 9).2.1 (xnT_WR 9).2.2.1 ∈ xf_GW := xf_mt 179 (by decide +kernel) (by decide +kernel)
theorem xk_WR_47 : Cond.fieldLink xnR_WR 47 (xnT_WR 10).1 (xnT_WR 10).2.1 (xnT_WR 10).2.2.1 ∈ xf_GW := xf_mt 180 (by decide +kernel) (by decide +kernel)
theorem xk_WR_50 : Cond.methodLink xnR_WR 50 xny_WR_lookUpKey ∈ xf_GW := xf_mt 287 (by decide +kernel) (by decide +kernel)
theorem xk_WR_53 : Cond.methodLink xnR_WR 53 xny_WR_changeValue ∈ xf_GW := xf_mt 348 (by decide +kernel) (by decide +kernel)
theorem xk_WR_56 : Cond.methodLink xnR_WR 56 xny_WR_changeToken ∈ xf_GW := xf_mt 353 (by decide +kernel) (by decide +kernel)
theorem xk_WR_59 : Cond.methodLink xnR_WR 59 xny_WR_evict ∈ xf_GW := xf_mt 361 (by decide +kernel) (by decide +kernel)
theorem xk_WR_62 : Cond.methodLink xnR_WR 62 xny_WR_seekPath ∈ xf_GW := xf_mt 369 (by decide +kernel) (by decide +kernel)
theorem xk_WR_65 : Cond.methodLink xnR_WR 65 xny_WR_moveOn ∈ xf_GW := xf_mt 393 (by decide +kernel) (by decide +kernel)
theorem xk_WR_68 : Cond.methodLink xnR_WR 68 xny_WR_moveOff ∈ xf_GW := xf_mt 397 (by decide +kernel) (by decide +kernel)
theorem xk_WR_71 : Cond.methodLink xnR_WR 71 xny_WR_insertKey ∈ xf_GW := xf_mt 401 (by decide +kernel) (by decide +kernel)
theorem xk_WR_74 : Cond.methodLink xnR_WR 74 xny_ST_lookUp ∈ xf_GW := xf_mt 291 (by decide +kernel) (by decide +kernel)
theorem xk_WR_80 : Cond.fieldLink xnR_WR 80 (xnT_ST 3).1 (xnT_ST 3).2.1 (xnT_ST 3).2.2.1 ∈ xf_GW := xf_mt 68 (by decide +kernel) (by decide +kernel)
theorem xk_WR_84 : Cond.fieldLink xnR_WR 84 (xnT_ST 7).1 (xnT_ST 7).2.1 (xnT_ST 7).2.2.1 ∈ xf_GW := xf_mt 84 (by decide +kernel) (by decide +kernel)
theorem xk_WR_87 : Cond.methodLink xnR_WR 87 xny_ST_isOver ∈ xf_GW := xf_mt 321 (by decide +kernel) (by decide +kernel)
theorem xk_WR_91 : Cond.methodLink xnR_WR 91 xny_ST_remove ∈ xf_GW := xf_mt 325 (by decide +kernel) (by decide +kernel)
theorem xk_WR_95 : Cond.fieldLink xnR_WR 95 (xnT_TA 5).1 (xnT_TA 5).2.1 (xnT_TA 5).2.2.1 ∈ xf_GW := xf_mt 33 (by decide +kernel) (by decide +kernel)
theorem xk_WR_100 : Cond.methodLink xnR_WR 100 xny_WR_chooseWhenFound ∈ xf_GW := xf_mt 336 (by decide +kernel) (by decide +kernel)
theorem xk_WR_103 : Cond.methodLink xnR_WR 103 xny_WR_chooseWhenNotFound ∈ xf_GW := xf_mt 340 (by decide +kernel) (by decide +kernel)
theorem xk_WR_106 : Cond.fieldLink xnR_WR 106 (xnT_ST 6).1 (xnT_ST 6).2.1 (xnT_ST 6).2.2.1 ∈ xf_GW := xf_mt 80 (by decide +kernel) (by decide +kernel)
theorem xk_WR_109 : Cond.fieldLink xnR_WR 109 (xnT_WR 11).1 (xnT_WR 11).2.1 (xnT_WR 11).2.2.1 ∈ xf_GW := xf_mt 181 (by decide +kernel) (by decide +kernel)
theorem xk_WR_112 : Cond.methodLink xnR_WR 112 xny_ST_isFull ∈ xf_GW := xf_mt 344 (by decide +kernel) (by decide +kernel)
theorem xk_WR_116 : Cond.methodLink xnR_WR 116 xny_ST_growVersion ∈ xf_GW := xf_mt 352 (by decide +kernel) (by decide +kernel)
theorem xk_WR_120 : Cond.fieldLink xnR_WR 120 (xnT_ST 5).1 (xnT_ST 5).2.1 (xnT_ST 5).2.2.1 ∈ xf_GW := xf_mt 77 (by decide +kernel) (by decide +kernel)
theorem xk_WR_123 : Cond.methodLink xnR_WR 123 xny_ST_renew ∈ xf_GW := xf_mt 357 (by decide +kernel) (by decide +kernel)
theorem xk_WR_126 : Cond.fieldLink xnR_WR 126 (xnT_ST 1).1 (xnT_ST 1).2.1 (xnT_ST 1).2.2.1 ∈ xf_GW := xf_mt 62 (by decide +kernel) (by decide +kernel)
theorem xk_WR_129 : Cond.fieldLink xnR_WR 129 (xnT_ST 8).1 (xnT_ST 8).2.1 (xnT_ST 8).2.2.1 ∈ xf_GW := xf_mt 89 (by decide +kernel) (by decide +kernel)
theorem xk_WR_133 : Cond.fieldLink xnR_WR 133 (xnT_WR 4).1 (xnT_WR 4).2.1 (xnT_WR 4).2.2.1 ∈ xf_GW := xf_mt 173 (by decide +kernel) (by decide +kernel)
theorem xk_WR_136 : Cond.methodLink xnR_WR 136 xny_WR_turnHand ∈ xf_GW := xf_mt 365 (by decide +kernel) (by decide +kernel)
theorem xk_WR_139 : Cond.fieldLink xnR_WR 139 (xnT_TA 0).1 (xnT_TA 0).2.1 (xnT_TA 0).2.2.1 ∈ xf_GW := xf_mt 23 (by decide +kernel) (by decide +kernel)
theorem xk_WR_142 : Cond.methodLink xnR_WR 142 xny_PA_seek ∈ xf_GW := xf_mt 373 (by decide +kernel) (by decide +kernel)
theorem xk_WR_145 : Cond.fieldLink xnR_WR 145 (xnT_PA 2).1 (xnT_PA 2).2.1 (xnT_PA 2).2.2.1 ∈ xf_GW := xf_mt 148 (by decide +kernel) (by decide +kernel)
theorem xk_WR_148 : Cond.fieldLink xnR_WR 148 (xnT_WR 12).1 (xnT_WR 12).2.1 (xnT_WR 12).2.2.1 ∈ xf_GW := xf_mt 182 (by decide +kernel) (by decide +kernel)
theorem xk_WR_151 : Cond.methodLink xnR_WR 151 xny_WR_chooseMove ∈ xf_GW := xf_mt 389 (by decide +kernel) (by decide +kernel)
theorem xk_WR_154 : Cond.fieldLink xnR_WR 154 (xnT_PA 1).1 (xnT_PA 1).2.1 (xnT_PA 1).2.2.1 ∈ xf_GW := xf_mt 146 (by decide +kernel) (by decide +kernel)
theorem xk_WR_157 : Cond.fieldLink xnR_WR 157 (xnT_ST 4).1 (xnT_ST 4).2.1 (xnT_ST 4).2.2.1 ∈ xf_GW := xf_mt 74 (by decide +kernel) (by decide +kernel)
theorem xk_WR_160 : Cond.fieldLink xnR_WR 160 (xnT_TA 1).1 (xnT_TA 1).2.1 (xnT_TA 1).2.2.1 ∈ xf_GW := xf_mt 25 (by decide +kernel) (by decide +kernel)
theorem xk_WR_163 : Cond.methodLink xnR_WR 163 xny_ST_insert ∈ xf_GW := xf_mt 405 (by decide +kernel) (by decide +kernel)
theorem xk_LW_9 : Cond.methodLink xnR_LW 9 xny_LW_cell ∈ xf_GW := xf_mt 534 (by decide +kernel) (by decide +kernel)
theorem xk_LW_15 : Cond.methodLink xnR_LW 15 xny_SC_init ∈ xf_GW := xf_mt 11 (by decide +kernel) (by decide +kernel)
theorem xk_LW_20 : Cond.methodLink xnR_LW 20 xny_MO_init ∈ xf_GW := xf_mt 539 (by decide +kernel) (by decide +kernel)
theorem xk_LW_21 : Cond.methodLink xnR_LW 21 xny_SC_write ∈ xf_GW := xf_mt 267 (by decide +kernel) (by decide +kernel)
theorem xk_LW_25 : Cond.methodLink xnR_LW 25 xny_MO_write ∈ xf_GW := xf_mt 683 (by decide +kernel) (by decide +kernel)
theorem xk_LW_26 : Cond.methodLink xnR_LW 26 xny_SC_work ∈ xf_GW := xf_mt 279 (by decide +kernel) (by decide +kernel)
theorem xk_LW_30 : Cond.methodLink xnR_LW 30 xny_MO_work ∈ xf_GW := xf_mt 687 (by decide +kernel) (by decide +kernel)
theorem xk_LW_31 : Cond.methodLink xnR_LW 31 xny_SC_outcome ∈ xf_GW := xf_mt 414 (by decide +kernel) (by decide +kernel)
theorem xk_LW_35 : Cond.methodLink xnR_LW 35 xny_MO_outcome ∈ xf_GW := xf_mt 747 (by decide +kernel) (by decide +kernel)
theorem xk_LW_36 : Cond.methodLink xnR_LW 36 xny_SC_get ∈ xf_GW := xf_mt 418 (by decide +kernel) (by decide +kernel)
theorem xk_LW_40 : Cond.methodLink xnR_LW 40 xny_MO_get ∈ xf_GW := xf_mt 751 (by decide +kernel) (by decide +kernel)
theorem xk_LW_41 : Cond.methodLink xnR_LW 41 xny_SC_step ∈ xf_GW := xf_mt 434 (by decide +kernel) (by decide +kernel)
theorem xk_LW_44 : Cond.methodLink xnR_LW 44 xny_MO_step ∈ xf_GW := xf_mt 762 (by decide +kernel) (by decide +kernel)
theorem xk_LW_45 : Cond.methodLink xnR_LW 45 xny_SC_state ∈ xf_GW := xf_mt 476 (by decide +kernel) (by decide +kernel)
theorem xk_LW_48 : Cond.methodLink xnR_LW 48 xny_MO_state ∈ xf_GW := xf_mt 786 (by decide +kernel) (by decide +kernel)
theorem xk_LW_49 : Cond.methodLink xnR_LW 49 xny_SC_value ∈ xf_GW := xf_mt 480 (by decide +kernel) (by decide +kernel)
theorem xk_LW_52 : Cond.methodLink xnR_LW 52 xny_MO_value ∈ xf_GW := xf_mt 790 (by decide +kernel) (by decide +kernel)
theorem xk_LW_53 : Cond.methodLink xnR_LW 53 xny_SC_token ∈ xf_GW := xf_mt 488 (by decide +kernel) (by decide +kernel)
theorem xk_LW_56 : Cond.methodLink xnR_LW 56 xny_MO_token ∈ xf_GW := xf_mt 794 (by decide +kernel) (by decide +kernel)
theorem xk_LW_57 : Cond.methodLink xnR_LW 57 xny_SC_pass ∈ xf_GW := xf_mt 492 (by decide +kernel) (by decide +kernel)
theorem xk_LW_61 : Cond.methodLink xnR_LW 61 xny_MO_pass ∈ xf_GW := xf_mt 798 (by decide +kernel) (by decide +kernel)
theorem xk_LW_62 : Cond.methodLink xnR_LW 62 xny_SC_where ∈ xf_GW := xf_mt 496 (by decide +kernel) (by decide +kernel)
theorem xk_LW_65 : Cond.methodLink xnR_LW 65 xny_MO_where ∈ xf_GW := xf_mt 675 (by decide +kernel) (by decide +kernel)
theorem xk_LW_66 : Cond.methodLink xnR_LW 66 xny_SC_at ∈ xf_GW := xf_mt 504 (by decide +kernel) (by decide +kernel)
theorem xk_LW_69 : Cond.methodLink xnR_LW 69 xny_MO_at ∈ xf_GW := xf_mt 802 (by decide +kernel) (by decide +kernel)
theorem xk_LW_70 : Cond.methodLink xnR_LW 70 xny_SC_item ∈ xf_GW := xf_mt 508 (by decide +kernel) (by decide +kernel)
theorem xk_LW_74 : Cond.methodLink xnR_LW 74 xny_MO_item ∈ xf_GW := xf_mt 810 (by decide +kernel) (by decide +kernel)
theorem xk_LW_75 : Cond.methodLink xnR_LW 75 xny_SC_used ∈ xf_GW := xf_mt 516 (by decide +kernel) (by decide +kernel)
theorem xk_LW_78 : Cond.methodLink xnR_LW 78 xny_MO_used ∈ xf_GW := xf_mt 806 (by decide +kernel) (by decide +kernel)
theorem xk_LW_79 : Cond.methodLink xnR_LW 79 xny_SC_version ∈ xf_GW := xf_mt 520 (by decide +kernel) (by decide +kernel)
theorem xk_LW_82 : Cond.methodLink xnR_LW 82 xny_MO_version ∈ xf_GW := xf_mt 814 (by decide +kernel) (by decide +kernel)
theorem xk_LW_83 : Cond.methodLink xnR_LW 83 xny_SC_hash ∈ xf_GW := xf_mt 524 (by decide +kernel) (by decide +kernel)
theorem xk_LW_86 : Cond.methodLink xnR_LW 86 xny_MO_hash ∈ xf_GW := xf_mt 658 (by decide +kernel) (by decide +kernel)
theorem xk_LW_87 : Cond.methodLink xnR_LW 87 xny_SC_count ∈ xf_GW := xf_mt 530 (by decide +kernel) (by decide +kernel)
theorem xk_LW_90 : Cond.methodLink xnR_LW 90 xny_MO_count ∈ xf_GW := xf_mt 818 (by decide +kernel) (by decide +kernel)
theorem xk_MO_7 : Cond.fieldLink xnR_MO 7 (xnT_MO 5).1 (xnT_MO 5).2.1 (xnT_MO 5).2.2.1 ∈ xf_GW := xf_mt 548 (by decide +kernel) (by decide +kernel)
theorem xk_MO_13 : Cond.fieldLink xnR_MO 13 (xnT_MO 6).1 (xnT_MO 6).2.1 (xnT_MO 6).2.2.1 ∈ xf_GW := xf_mt 549 (by decide +kernel) (by decide +kernel)
theorem xk_MO_17 : Cond.fieldLink xnR_MO 17 (xnT_MO 7).1 (xnT_MO 7).2.1 (xnT_MO 7).2.2.1 ∈ xf_GW := xf_mt 550 (by decide +kernel) (by decide +kernel)
theorem xk_MO_20 : Cond.fieldLink xnR_MO 20 (xnT_MO 8).1 (xnT_MO 8).2.1 (xnT_MO 8).2.2.1 ∈ xf_GW := xf_mt 551 (by decide +kernel) (by decide +kernel)
theorem xk_MO_23 : Cond.fieldLink xnR_MO 23 (xnT_MO 9).1 (xnT_MO 9).2.1 (xnT_MO 9).2.2.1 ∈ xf_GW := xf_mt 552 (by decide +kernel) (by decide +kernel)
theorem xk_MO_26 : Cond.fieldLink xnR_MO 26 (xnT_MO 10).1 (xnT_MO 10).2.1 (xnT_MO 10).2.2.1 ∈ xf_GW := xf_mt 553 (by decide +kernel) (by decide +kernel)
theorem xk_MO_29 : Cond.fieldLink xnR_MO 29 (xnT_MO 11).1 (xnT_MO 11).2.1 (xnT_MO 11).2.2.1 ∈ xf_GW := xf_mt 554 (by decide +kernel) (by decide +kernel)
theorem xk_MO_32 : Cond.fieldLink xnR_MO 32 (xnT_MO 12).1 (xnT_MO 12).2.1 (xnT_MO 12).2.2.1 ∈ xf_GW := xf_mt 555 (by decide +kernel) (by decide +kernel)
theorem xk_MO_35 : Cond.fieldLink xnR_MO 35 (xnT_MO 14).1 (xnT_MO 14).2.1 (xnT_MO 14).2.2.1 ∈ xf_GW := xf_mt 557 (by decide +kernel) (by decide +kernel)
theorem xk_MO_39 : Cond.fieldLink xnR_MO 39 (xnT_MO 23).1 (xnT_MO 23).2.1 (xnT_MO 23).2.2.1 ∈ xf_GW := xf_mt 566 (by decide +kernel) (by decide +kernel)
theorem xk_MO_42 : Cond.fieldLink xnR_MO 42 (xnT_MO 24).1 (xnT_MO 24).2.1 (xnT_MO 24).2.2.1 ∈ xf_GW := xf_mt 567 (by decide +kernel) (by decide +kernel)
theorem xk_MO_45 : Cond.fieldLink xnR_MO 45 (xnT_MO 25).1 (xnT_MO 25).2.1 (xnT_MO 25).2.2.1 ∈ xf_GW := xf_mt 568 (by decide +kernel) (by decide +kernel)
theorem xk_MO_48 : Cond.fieldLink xnR_MO 48 (xnT_MO 26).1 (xnT_MO 26).2.1 (xnT_MO 26).2.2.1 ∈ xf_GW := xf_mt 569 (by decide +kernel) (by decide +kernel)
theorem xk_MO_51 : Cond.fieldLink xnR_MO 51 (xnT_MO 27).1 (xnT_MO 27).2.1 (xnT_MO 27).2.2.1 ∈ xf_GW := xf_mt 570 (by decide +kernel) (by decide +kernel)
theorem xk_MO_54 : Cond.fieldLink xnR_MO 54 (xnT_MO 28).1 (xnT_MO 28).2.1 (xnT_MO 28).2.2.1 ∈ xf_GW := xf_mt 571 (by decide +kernel) (by decide +kernel)
theorem xk_MO_57 : Cond.fieldLink xnR_MO 57 (xnT_MO 29).1 (xnT_MO 29).2.1 (xnT_MO 29).2.2.1 ∈ xf_GW := xf_mt 572 (by decide +kernel) (by decide +kernel)
theorem xk_MO_60 : Cond.fieldLink xnR_MO 60 (xnT_MO 30).1 (xnT_MO 30).2.1 (xnT_MO 30).2.2.1 ∈ xf_GW := xf_mt 573 (by decide +kernel) (by decide +kernel)
theorem xk_MO_63 : Cond.fieldLink xnR_MO 63 (xnT_MO 31).1 (xnT_MO 31).2.1 (xnT_MO 31).2.2.1 ∈ xf_GW := xf_mt 574 (by decide +kernel) (by decide +kernel)
theorem xk_MO_66 : Cond.fieldLink xnR_MO 66 (xnT_MO 0).1 (xnT_MO 0).2.1 (xnT_MO 0).2.2.1 ∈ xf_GW := xf_mt 543 (by decide +kernel) (by decide +kernel)
theorem xk_MO_69 : Cond.fieldLink xnR_MO 69 (xnT_MO 1).1 (xnT_MO 1).2.1 (xnT_MO 1).2.2.1 ∈ xf_GW := xf_mt 544 (by decide +kernel) (by decide +kernel)
theorem xkc_MO_72 : Cond.constant xnR_MO 72 (1368264107) ∈ xf_GW := xf_mt 668 (by decide +kernel) (by decide +kernel)
theorem xk_MO_73 : Cond.methodLink xnR_MO 73 xny_MO_mix ∈ xf_GW := xf_mt 665 (by decide +kernel) (by decide +kernel)
theorem xk_MO_77 : Cond.methodLink xnR_MO 77 xny_MO_tag ∈ xf_GW := xf_mt 669 (by decide +kernel) (by decide +kernel)
theorem xk_MO_80 : Cond.methodLink xnR_MO 80 xny_MO_bucket ∈ xf_GW := xf_mt 662 (by decide +kernel) (by decide +kernel)
theorem xk_MO_84 : Cond.methodLink xnR_MO 84 xny_MO_stripe ∈ xf_GW := xf_mt 672 (by decide +kernel) (by decide +kernel)
theorem xk_MO_87 : Cond.methodLink xnR_MO 87 xny_MO_search ∈ xf_GW := xf_mt 679 (by decide +kernel) (by decide +kernel)
theorem xk_MO_90 : Cond.fieldLink xnR_MO 90 (xnT_MO 36).1 (xnT_MO 36).2.1 (xnT_MO 36).2.2.1 ∈ xf_GW := xf_mt 579 (by decide +kernel) (by decide +kernel)
theorem xk_MO_93 : Cond.methodLink xnR_MO 93 xny_MO_look ∈ xf_GW := xf_mt 703 (by decide +kernel) (by decide +kernel)
theorem xk_MO_96 : Cond.fieldLink xnR_MO 96 (xnT_MO 2).1 (xnT_MO 2).2.1 (xnT_MO 2).2.2.1 ∈ xf_GW := xf_mt 545 (by decide +kernel) (by decide +kernel)
theorem xk_MO_99 : Cond.fieldLink xnR_MO 99 (xnT_MO 13).1 (xnT_MO 13).2.1 (xnT_MO 13).2.2.1 ∈ xf_GW := xf_mt 556 (by decide +kernel) (by decide +kernel)
theorem xk_MO_102 : Cond.fieldLink xnR_MO 102 (xnT_MO 15).1 (xnT_MO 15).2.1 (xnT_MO 15).2.2.1 ∈ xf_GW := xf_mt 558 (by decide +kernel) (by decide +kernel)
theorem xk_MO_105 : Cond.fieldLink xnR_MO 105 (xnT_MO 16).1 (xnT_MO 16).2.1 (xnT_MO 16).2.2.1 ∈ xf_GW := xf_mt 559 (by decide +kernel) (by decide +kernel)
theorem xk_MO_108 : Cond.fieldLink xnR_MO 108 (xnT_MO 17).1 (xnT_MO 17).2.1 (xnT_MO 17).2.2.1 ∈ xf_GW := xf_mt 560 (by decide +kernel) (by decide +kernel)
theorem xk_MO_111 : Cond.fieldLink xnR_MO 111 (xnT_MO 18).1 (xnT_MO 18).2.1 (xnT_MO 18).2.2.1 ∈ xf_GW := xf_mt 561 (by decide +kernel) (by decide +kernel)
theorem xk_MO_114 : Cond.fieldLink xnR_MO 114 (xnT_MO 19).1 (xnT_MO 19).2.1 (xnT_MO 19).2.2.1 ∈ xf_GW := xf_mt 562 (by decide +kernel) (by decide +kernel)
theorem xk_MO_117 : Cond.methodLink xnR_MO 117 xny_MO_one ∈ xf_GW := xf_mt 691 (by decide +kernel) (by decide +kernel)
theorem xk_MO_120 : Cond.methodLink xnR_MO 120 xny_MO_begin ∈ xf_GW := xf_mt 695 (by decide +kernel) (by decide +kernel)
theorem xk_MO_123 : Cond.fieldLink xnR_MO 123 (xnT_MO 20).1 (xnT_MO 20).2.1 (xnT_MO 20).2.2.1 ∈ xf_GW := xf_mt 563 (by decide +kernel) (by decide +kernel)
theorem xk_MO_126 : Cond.methodLink xnR_MO 126 xny_MO_stamp ∈ xf_GW := xf_mt 723 (by decide +kernel) (by decide +kernel)
theorem xk_MO_130 : Cond.methodLink xnR_MO 130 xny_MO_finish ∈ xf_GW := xf_mt 715 (by decide +kernel) (by decide +kernel)
theorem xk_MO_133 : Cond.methodLink xnR_MO 133 xny_MO_evict ∈ xf_GW := xf_mt 727 (by decide +kernel) (by decide +kernel)
theorem xk_MO_136 : Cond.methodLink xnR_MO 136 xny_MO_seek ∈ xf_GW := xf_mt 731 (by decide +kernel) (by decide +kernel)
theorem xk_MO_139 : Cond.methodLink xnR_MO 139 xny_MO_move ∈ xf_GW := xf_mt 739 (by decide +kernel) (by decide +kernel)
theorem xk_MO_142 : Cond.methodLink xnR_MO 142 xny_MO_enter ∈ xf_GW := xf_mt 743 (by decide +kernel) (by decide +kernel)
theorem xk_MO_145 : Cond.fieldLink xnR_MO 145 (xnT_MO 4).1 (xnT_MO 4).2.1 (xnT_MO 4).2.2.1 ∈ xf_GW := xf_mt 547 (by decide +kernel) (by decide +kernel)
theorem xk_MO_148 : Cond.methodLink xnR_MO 148 xny_MO_lookBoth ∈ xf_GW := xf_mt 699 (by decide +kernel) (by decide +kernel)
theorem xk_MO_151 : Cond.methodLink xnR_MO 151 xny_MO_over ∈ xf_GW := xf_mt 707 (by decide +kernel) (by decide +kernel)
theorem xk_MO_155 : Cond.methodLink xnR_MO 155 xny_MO_remove ∈ xf_GW := xf_mt 711 (by decide +kernel) (by decide +kernel)
theorem xk_MO_158 : Cond.fieldLink xnR_MO 158 (xnT_MO 37).1 (xnT_MO 37).2.1 (xnT_MO 37).2.2.1 ∈ xf_GW := xf_mt 580 (by decide +kernel) (by decide +kernel)
theorem xk_MO_161 : Cond.methodLink xnR_MO 161 xny_MO_many ∈ xf_GW := xf_mt 719 (by decide +kernel) (by decide +kernel)
theorem xk_MO_165 : Cond.fieldLink xnR_MO 165 (xnT_MO 3).1 (xnT_MO 3).2.1 (xnT_MO 3).2.2.1 ∈ xf_GW := xf_mt 546 (by decide +kernel) (by decide +kernel)
theorem xk_MO_168 : Cond.fieldLink xnR_MO 168 (xnT_MO 32).1 (xnT_MO 32).2.1 (xnT_MO 32).2.2.1 ∈ xf_GW := xf_mt 575 (by decide +kernel) (by decide +kernel)
theorem xk_MO_171 : Cond.methodLink xnR_MO 171 xny_MO_leads ∈ xf_GW := xf_mt 735 (by decide +kernel) (by decide +kernel)
theorem xk_MO_175 : Cond.fieldLink xnR_MO 175 (xnT_MO 21).1 (xnT_MO 21).2.1 (xnT_MO 21).2.2.1 ∈ xf_GW := xf_mt 564 (by decide +kernel) (by decide +kernel)
theorem xk_MO_178 : Cond.fieldLink xnR_MO 178 (xnT_MO 22).1 (xnT_MO 22).2.1 (xnT_MO 22).2.2.1 ∈ xf_GW := xf_mt 565 (by decide +kernel) (by decide +kernel)
theorem xk_MO_181 : Cond.fieldLink xnR_MO 181 (xnT_MO 33).1 (xnT_MO 33).2.1 (xnT_MO 33).2.2.1 ∈ xf_GW := xf_mt 576 (by decide +kernel) (by decide +kernel)
theorem xk_MO_184 : Cond.methodLink xnR_MO 184 xny_MO_reader ∈ xf_GW := xf_mt 755 (by decide +kernel) (by decide +kernel)
theorem xk_MO_187 : Cond.methodLink xnR_MO 187 xny_MO_reading ∈ xf_GW := xf_mt 758 (by decide +kernel) (by decide +kernel)
theorem xk_MO_190 : Cond.methodLink xnR_MO 190 xny_MO_keep ∈ xf_GW := xf_mt 766 (by decide +kernel) (by decide +kernel)
theorem xk_MO_194 : Cond.methodLink xnR_MO 194 xny_MO_find ∈ xf_GW := xf_mt 770 (by decide +kernel) (by decide +kernel)
theorem xk_MO_197 : Cond.methodLink xnR_MO 197 xny_MO_copy ∈ xf_GW := xf_mt 774 (by decide +kernel) (by decide +kernel)
theorem xk_MO_200 : Cond.methodLink xnR_MO 200 xny_MO_check ∈ xf_GW := xf_mt 778 (by decide +kernel) (by decide +kernel)
theorem xk_MO_203 : Cond.methodLink xnR_MO 203 xny_MO_locked ∈ xf_GW := xf_mt 782 (by decide +kernel) (by decide +kernel)
theorem xk_MO_206 : Cond.fieldLink xnR_MO 206 (xnT_MO 35).1 (xnT_MO 35).2.1 (xnT_MO 35).2.2.1 ∈ xf_GW := xf_mt 578 (by decide +kernel) (by decide +kernel)
theorem xk_MO_209 : Cond.fieldLink xnR_MO 209 (xnT_MO 34).1 (xnT_MO 34).2.1 (xnT_MO 34).2.2.1 ∈ xf_GW := xf_mt 577 (by decide +kernel) (by decide +kernel)
theorem xq_SC_isWithin : xf_sta xny_SC_isWithin xnc_SC_isWithin 3 (some .boolean) 3 := ⟨⟨xf_mt 52 (by decide +kernel) rfl, xf_mt 1 (by decide +kernel) rfl, by decide +kernel, by decide +kernel, by decide +kernel⟩, xf_mt 51 (by decide +kernel) rfl⟩
theorem xq_AR_fill : xf_sta xny_AR_fill xnc_AR_fill 4 none 2 := ⟨⟨xf_mt 59 (by decide +kernel) rfl, xf_mt 4 (by decide +kernel) rfl, by decide +kernel, by decide +kernel, by decide +kernel⟩, xf_mt 58 (by decide +kernel) rfl⟩
theorem xq_SC_write : xf_vir xny_SC_write xnc_SC_write 6 (some .boolean) 5 := ⟨⟨xf_mt 270 (by decide +kernel) rfl, xf_mt 1 (by decide +kernel) rfl, by decide +kernel, by decide +kernel, by decide +kernel⟩, xf_mt 268 (by decide +kernel) rfl, xf_mt 269 (by decide +kernel) rfl⟩
theorem xq_WR_isUnderWay : xf_vir xny_WR_isUnderWay xnc_WR_isUnderWay 1 (some .boolean) 0 := ⟨⟨xf_mt 274 (by decide +kernel) rfl, xf_mt 5 (by decide +kernel) rfl, by decide +kernel, by decide +kernel, by decide +kernel⟩, xf_mt 272 (by decide +kernel) rfl, xf_mt 273 (by decide +kernel) rfl⟩
theorem xq_WR_begin : xf_vir xny_WR_begin xnc_WR_begin 6 none 5 := ⟨⟨xf_mt 278 (by decide +kernel) rfl, xf_mt 5 (by decide +kernel) rfl, by decide +kernel, by decide +kernel, by decide +kernel⟩, xf_mt 276 (by decide +kernel) rfl, xf_mt 277 (by decide +kernel) rfl⟩
theorem xq_SC_work : xf_vir xny_SC_work xnc_SC_work 3 (some .int) 1 := ⟨⟨xf_mt 282 (by decide +kernel) rfl, xf_mt 1 (by decide +kernel) rfl, by decide +kernel, by decide +kernel, by decide +kernel⟩, xf_mt 280 (by decide +kernel) rfl, xf_mt 281 (by decide +kernel) rfl⟩
theorem xq_WR_goOn : xf_vir xny_WR_goOn xnc_WR_goOn 1 none 0 := ⟨⟨xf_mt 286 (by decide +kernel) rfl, xf_mt 5 (by decide +kernel) rfl, by decide +kernel, by decide +kernel, by decide +kernel⟩, xf_mt 284 (by decide +kernel) rfl, xf_mt 285 (by decide +kernel) rfl⟩
theorem xq_WR_lookUpKey : xf_vir xny_WR_lookUpKey xnc_WR_lookUpKey 3 none 0 := ⟨⟨xf_mt 290 (by decide +kernel) rfl, xf_mt 5 (by decide +kernel) rfl, by decide +kernel, by decide +kernel, by decide +kernel⟩, xf_mt 289 (by decide +kernel) rfl, xf_ms 0 (by decide +kernel) rfl⟩
theorem xq_ST_lookUp : xf_vir xny_ST_lookUp xnc_ST_lookUp 3 (some .int) 1 := ⟨⟨xf_mt 294 (by decide +kernel) rfl, xf_mt 3 (by decide +kernel) rfl, by decide +kernel, by decide +kernel, by decide +kernel⟩, xf_mt 292 (by decide +kernel) rfl, xf_mt 293 (by decide +kernel) rfl⟩
theorem xq_SC_firstBucket : xf_sta xny_SC_firstBucket xnc_SC_firstBucket 1 (some .int) 1 := ⟨⟨xf_mt 297 (by decide +kernel) rfl, xf_mt 1 (by decide +kernel) rfl, by decide +kernel, by decide +kernel, by decide +kernel⟩, xf_mt 296 (by decide +kernel) rfl⟩
theorem xq_SC_mix : xf_sta xny_SC_mix xnc_SC_mix 1 (some .int) 1 := ⟨⟨xf_mt 300 (by decide +kernel) rfl, xf_mt 1 (by decide +kernel) rfl, by decide +kernel, by decide +kernel, by decide +kernel⟩, xf_mt 299 (by decide +kernel) rfl⟩
theorem xq_ST_lookUpIn : xf_vir xny_ST_lookUpIn xnc_ST_lookUpIn 6 (some .int) 2 := ⟨⟨xf_mt 305 (by decide +kernel) rfl, xf_mt 3 (by decide +kernel) rfl, by decide +kernel, by decide +kernel, by decide +kernel⟩, xf_mt 303 (by decide +kernel) rfl, xf_mt 304 (by decide +kernel) rfl⟩
theorem xq_ST_findIn : xf_vir xny_ST_findIn xnc_ST_findIn 5 (some .int) 2 := ⟨⟨xf_mt 309 (by decide +kernel) rfl, xf_mt 3 (by decide +kernel) rfl, by decide +kernel, by decide +kernel, by decide +kernel⟩, xf_mt 307 (by decide +kernel) rfl, xf_mt 308 (by decide +kernel) rfl⟩
theorem xq_SC_tagOf : xf_sta xny_SC_tagOf xnc_SC_tagOf 1 (some .int) 1 := ⟨⟨xf_mt 312 (by decide +kernel) rfl, xf_mt 1 (by decide +kernel) rfl, by decide +kernel, by decide +kernel, by decide +kernel⟩, xf_mt 311 (by decide +kernel) rfl⟩
theorem xq_SC_secondBucket : xf_sta xny_SC_secondBucket xnc_SC_secondBucket 1 (some .int) 1 := ⟨⟨xf_mt 315 (by decide +kernel) rfl, xf_mt 1 (by decide +kernel) rfl, by decide +kernel, by decide +kernel, by decide +kernel⟩, xf_mt 314 (by decide +kernel) rfl⟩
theorem xq_SC_otherBucket : xf_sta xny_SC_otherBucket xnc_SC_otherBucket 2 (some .int) 2 := ⟨⟨xf_mt 319 (by decide +kernel) rfl, xf_mt 1 (by decide +kernel) rfl, by decide +kernel, by decide +kernel, by decide +kernel⟩, xf_mt 318 (by decide +kernel) rfl⟩
theorem xq_ST_isOver : xf_vir xny_ST_isOver xnc_ST_isOver 2 (some .boolean) 1 := ⟨⟨xf_mt 324 (by decide +kernel) rfl, xf_mt 3 (by decide +kernel) rfl, by decide +kernel, by decide +kernel, by decide +kernel⟩, xf_mt 322 (by decide +kernel) rfl, xf_mt 323 (by decide +kernel) rfl⟩
theorem xq_ST_remove : xf_vir xny_ST_remove xnc_ST_remove 3 none 1 := ⟨⟨xf_mt 328 (by decide +kernel) rfl, xf_mt 3 (by decide +kernel) rfl, by decide +kernel, by decide +kernel, by decide +kernel⟩, xf_mt 326 (by decide +kernel) rfl, xf_mt 327 (by decide +kernel) rfl⟩
theorem xq_ST_growVersion : xf_vir xny_ST_growVersion xnc_ST_growVersion 3 none 2 := ⟨⟨xf_mt 332 (by decide +kernel) rfl, xf_mt 3 (by decide +kernel) rfl, by decide +kernel, by decide +kernel, by decide +kernel⟩, xf_mt 330 (by decide +kernel) rfl, xf_mt 331 (by decide +kernel) rfl⟩
theorem xq_SC_stripeOf : xf_sta xny_SC_stripeOf xnc_SC_stripeOf 1 (some .int) 1 := ⟨⟨xf_mt 335 (by decide +kernel) rfl, xf_mt 1 (by decide +kernel) rfl, by decide +kernel, by decide +kernel, by decide +kernel⟩, xf_mt 334 (by decide +kernel) rfl⟩
theorem xq_WR_chooseWhenFound : xf_vir xny_WR_chooseWhenFound xnc_WR_chooseWhenFound 2 none 1 := ⟨⟨xf_mt 339 (by decide +kernel) rfl, xf_mt 5 (by decide +kernel) rfl, by decide +kernel, by decide +kernel, by decide +kernel⟩, xf_mt 338 (by decide +kernel) rfl, xf_ms 1 (by decide +kernel) rfl⟩
theorem xq_WR_chooseWhenNotFound : xf_vir xny_WR_chooseWhenNotFound xnc_WR_chooseWhenNotFound 1 none 0 := ⟨⟨xf_mt 343 (by decide +kernel) rfl, xf_mt 5 (by decide +kernel) rfl, by decide +kernel, by decide +kernel, by decide +kernel⟩, xf_mt 342 (by decide +kernel) rfl, xf_ms 2 (by decide +kernel) rfl⟩
theorem xq_ST_isFull : xf_vir xny_ST_isFull xnc_ST_isFull 1 (some .boolean) 0 := ⟨⟨xf_mt 347 (by decide +kernel) rfl, xf_mt 3 (by decide +kernel) rfl, by decide +kernel, by decide +kernel, by decide +kernel⟩, xf_mt 345 (by decide +kernel) rfl, xf_mt 346 (by decide +kernel) rfl⟩
theorem xq_WR_changeValue : xf_vir xny_WR_changeValue xnc_WR_changeValue 1 none 0 := ⟨⟨xf_mt 351 (by decide +kernel) rfl, xf_mt 5 (by decide +kernel) rfl, by decide +kernel, by decide +kernel, by decide +kernel⟩, xf_mt 350 (by decide +kernel) rfl, xf_ms 3 (by decide +kernel) rfl⟩
theorem xq_WR_changeToken : xf_vir xny_WR_changeToken xnc_WR_changeToken 1 none 0 := ⟨⟨xf_mt 356 (by decide +kernel) rfl, xf_mt 5 (by decide +kernel) rfl, by decide +kernel, by decide +kernel, by decide +kernel⟩, xf_mt 355 (by decide +kernel) rfl, xf_ms 4 (by decide +kernel) rfl⟩
theorem xq_ST_renew : xf_vir xny_ST_renew xnc_ST_renew 3 none 2 := ⟨⟨xf_mt 360 (by decide +kernel) rfl, xf_mt 3 (by decide +kernel) rfl, by decide +kernel, by decide +kernel, by decide +kernel⟩, xf_mt 358 (by decide +kernel) rfl, xf_mt 359 (by decide +kernel) rfl⟩
theorem xq_WR_evict : xf_vir xny_WR_evict xnc_WR_evict 2 none 0 := ⟨⟨xf_mt 364 (by decide +kernel) rfl, xf_mt 5 (by decide +kernel) rfl, by decide +kernel, by decide +kernel, by decide +kernel⟩, xf_mt 363 (by decide +kernel) rfl, xf_ms 5 (by decide +kernel) rfl⟩
theorem xq_WR_turnHand : xf_vir xny_WR_turnHand xnc_WR_turnHand 1 none 0 := ⟨⟨xf_mt 368 (by decide +kernel) rfl, xf_mt 5 (by decide +kernel) rfl, by decide +kernel, by decide +kernel, by decide +kernel⟩, xf_mt 367 (by decide +kernel) rfl, xf_ms 6 (by decide +kernel) rfl⟩
theorem xq_WR_seekPath : xf_vir xny_WR_seekPath xnc_WR_seekPath 1 none 0 := ⟨⟨xf_mt 372 (by decide +kernel) rfl, xf_mt 5 (by decide +kernel) rfl, by decide +kernel, by decide +kernel, by decide +kernel⟩, xf_mt 371 (by decide +kernel) rfl, xf_ms 7 (by decide +kernel) rfl⟩
theorem xq_PA_seek : xf_vir xny_PA_seek xnc_PA_seek 4 (some .boolean) 1 := ⟨⟨xf_mt 376 (by decide +kernel) rfl, xf_mt 6 (by decide +kernel) rfl, by decide +kernel, by decide +kernel, by decide +kernel⟩, xf_mt 374 (by decide +kernel) rfl, xf_mt 375 (by decide +kernel) rfl⟩
theorem xq_PA_enter : xf_vir xny_PA_enter xnc_PA_enter 6 none 3 := ⟨⟨xf_mt 382 (by decide +kernel) rfl, xf_mt 6 (by decide +kernel) rfl, by decide +kernel, by decide +kernel, by decide +kernel⟩, xf_mt 381 (by decide +kernel) rfl, xf_ms 8 (by decide +kernel) rfl⟩
theorem xq_PA_keep : xf_vir xny_PA_keep xnc_PA_keep 4 none 1 := ⟨⟨xf_mt 387 (by decide +kernel) rfl, xf_mt 6 (by decide +kernel) rfl, by decide +kernel, by decide +kernel, by decide +kernel⟩, xf_mt 386 (by decide +kernel) rfl, xf_ms 9 (by decide +kernel) rfl⟩
theorem xq_WR_chooseMove : xf_vir xny_WR_chooseMove xnc_WR_chooseMove 1 none 0 := ⟨⟨xf_mt 392 (by decide +kernel) rfl, xf_mt 5 (by decide +kernel) rfl, by decide +kernel, by decide +kernel, by decide +kernel⟩, xf_mt 391 (by decide +kernel) rfl, xf_ms 10 (by decide +kernel) rfl⟩
theorem xq_WR_moveOn : xf_vir xny_WR_moveOn xnc_WR_moveOn 2 none 0 := ⟨⟨xf_mt 396 (by decide +kernel) rfl, xf_mt 5 (by decide +kernel) rfl, by decide +kernel, by decide +kernel, by decide +kernel⟩, xf_mt 395 (by decide +kernel) rfl, xf_ms 11 (by decide +kernel) rfl⟩
theorem xq_WR_moveOff : xf_vir xny_WR_moveOff xnc_WR_moveOff 2 none 0 := ⟨⟨xf_mt 400 (by decide +kernel) rfl, xf_mt 5 (by decide +kernel) rfl, by decide +kernel, by decide +kernel, by decide +kernel⟩, xf_mt 399 (by decide +kernel) rfl, xf_ms 12 (by decide +kernel) rfl⟩
theorem xq_WR_insertKey : xf_vir xny_WR_insertKey xnc_WR_insertKey 1 none 0 := ⟨⟨xf_mt 404 (by decide +kernel) rfl, xf_mt 5 (by decide +kernel) rfl, by decide +kernel, by decide +kernel, by decide +kernel⟩, xf_mt 403 (by decide +kernel) rfl, xf_ms 13 (by decide +kernel) rfl⟩
theorem xq_ST_insert : xf_vir xny_ST_insert xnc_ST_insert 6 none 4 := ⟨⟨xf_mt 408 (by decide +kernel) rfl, xf_mt 3 (by decide +kernel) rfl, by decide +kernel, by decide +kernel, by decide +kernel⟩, xf_mt 406 (by decide +kernel) rfl, xf_mt 407 (by decide +kernel) rfl⟩
theorem xq_ST_lowestFree : xf_vir xny_ST_lowestFree xnc_ST_lowestFree 2 (some .int) 0 := ⟨⟨xf_mt 412 (by decide +kernel) rfl, xf_mt 3 (by decide +kernel) rfl, by decide +kernel, by decide +kernel, by decide +kernel⟩, xf_mt 410 (by decide +kernel) rfl, xf_mt 411 (by decide +kernel) rfl⟩
theorem xq_SC_outcome : xf_vir xny_SC_outcome xnc_SC_outcome 1 (some .int) 0 := ⟨⟨xf_mt 417 (by decide +kernel) rfl, xf_mt 1 (by decide +kernel) rfl, by decide +kernel, by decide +kernel, by decide +kernel⟩, xf_mt 415 (by decide +kernel) rfl, xf_mt 416 (by decide +kernel) rfl⟩
theorem xq_SC_get : xf_vir xny_SC_get xnc_SC_get 3 (some .boolean) 2 := ⟨⟨xf_mt 421 (by decide +kernel) rfl, xf_mt 1 (by decide +kernel) rfl, by decide +kernel, by decide +kernel, by decide +kernel⟩, xf_mt 419 (by decide +kernel) rfl, xf_mt 420 (by decide +kernel) rfl⟩
theorem xq_SC_isReader : xf_sta xny_SC_isReader xnc_SC_isReader 1 (some .boolean) 1 := ⟨⟨xf_mt 424 (by decide +kernel) rfl, xf_mt 1 (by decide +kernel) rfl, by decide +kernel, by decide +kernel, by decide +kernel⟩, xf_mt 423 (by decide +kernel) rfl⟩
theorem xq_RD_isUnderWay : xf_vir xny_RD_isUnderWay xnc_RD_isUnderWay 1 (some .boolean) 0 := ⟨⟨xf_mt 428 (by decide +kernel) rfl, xf_mt 7 (by decide +kernel) rfl, by decide +kernel, by decide +kernel, by decide +kernel⟩, xf_mt 426 (by decide +kernel) rfl, xf_mt 427 (by decide +kernel) rfl⟩
theorem xq_RD_begin : xf_vir xny_RD_begin xnc_RD_begin 2 none 1 := ⟨⟨xf_mt 433 (by decide +kernel) rfl, xf_mt 7 (by decide +kernel) rfl, by decide +kernel, by decide +kernel, by decide +kernel⟩, xf_mt 431 (by decide +kernel) rfl, xf_mt 432 (by decide +kernel) rfl⟩
theorem xq_SC_step : xf_vir xny_SC_step xnc_SC_step 2 (some .int) 1 := ⟨⟨xf_mt 437 (by decide +kernel) rfl, xf_mt 1 (by decide +kernel) rfl, by decide +kernel, by decide +kernel, by decide +kernel⟩, xf_mt 435 (by decide +kernel) rfl, xf_mt 436 (by decide +kernel) rfl⟩
theorem xq_RD_goOn : xf_vir xny_RD_goOn xnc_RD_goOn 1 none 0 := ⟨⟨xf_mt 441 (by decide +kernel) rfl, xf_mt 7 (by decide +kernel) rfl, by decide +kernel, by decide +kernel, by decide +kernel⟩, xf_mt 439 (by decide +kernel) rfl, xf_mt 440 (by decide +kernel) rfl⟩
theorem xq_RD_keepVersion : xf_vir xny_RD_keepVersion xnc_RD_keepVersion 1 none 0 := ⟨⟨xf_mt 445 (by decide +kernel) rfl, xf_mt 7 (by decide +kernel) rfl, by decide +kernel, by decide +kernel, by decide +kernel⟩, xf_mt 444 (by decide +kernel) rfl, xf_ms 14 (by decide +kernel) rfl⟩
theorem xq_ST_versionFor : xf_vir xny_ST_versionFor xnc_ST_versionFor 2 (some .int) 1 := ⟨⟨xf_mt 449 (by decide +kernel) rfl, xf_mt 3 (by decide +kernel) rfl, by decide +kernel, by decide +kernel, by decide +kernel⟩, xf_mt 447 (by decide +kernel) rfl, xf_mt 448 (by decide +kernel) rfl⟩
theorem xq_RD_lookInto : xf_vir xny_RD_lookInto xnc_RD_lookInto 4 none 2 := ⟨⟨xf_mt 454 (by decide +kernel) rfl, xf_mt 7 (by decide +kernel) rfl, by decide +kernel, by decide +kernel, by decide +kernel⟩, xf_mt 453 (by decide +kernel) rfl, xf_ms 15 (by decide +kernel) rfl⟩
theorem xq_RD_copyItem : xf_vir xny_RD_copyItem xnc_RD_copyItem 1 none 0 := ⟨⟨xf_mt 460 (by decide +kernel) rfl, xf_mt 7 (by decide +kernel) rfl, by decide +kernel, by decide +kernel, by decide +kernel⟩, xf_mt 459 (by decide +kernel) rfl, xf_ms 16 (by decide +kernel) rfl⟩
theorem xq_RD_checkVersion : xf_vir xny_RD_checkVersion xnc_RD_checkVersion 1 none 0 := ⟨⟨xf_mt 464 (by decide +kernel) rfl, xf_mt 7 (by decide +kernel) rfl, by decide +kernel, by decide +kernel, by decide +kernel⟩, xf_mt 463 (by decide +kernel) rfl, xf_ms 17 (by decide +kernel) rfl⟩
theorem xq_RD_end : xf_vir xny_RD_end xnc_RD_end 2 none 1 := ⟨⟨xf_mt 469 (by decide +kernel) rfl, xf_mt 7 (by decide +kernel) rfl, by decide +kernel, by decide +kernel, by decide +kernel⟩, xf_mt 468 (by decide +kernel) rfl, xf_ms 18 (by decide +kernel) rfl⟩
theorem xq_RD_readLocked : xf_vir xny_RD_readLocked xnc_RD_readLocked 2 none 0 := ⟨⟨xf_mt 473 (by decide +kernel) rfl, xf_mt 7 (by decide +kernel) rfl, by decide +kernel, by decide +kernel, by decide +kernel⟩, xf_mt 472 (by decide +kernel) rfl, xf_ms 19 (by decide +kernel) rfl⟩
theorem xq_SC_state : xf_vir xny_SC_state xnc_SC_state 2 (some .int) 1 := ⟨⟨xf_mt 479 (by decide +kernel) rfl, xf_mt 1 (by decide +kernel) rfl, by decide +kernel, by decide +kernel, by decide +kernel⟩, xf_mt 477 (by decide +kernel) rfl, xf_mt 478 (by decide +kernel) rfl⟩
theorem xq_SC_value : xf_vir xny_SC_value xnc_SC_value 2 (some .int) 1 := ⟨⟨xf_mt 483 (by decide +kernel) rfl, xf_mt 1 (by decide +kernel) rfl, by decide +kernel, by decide +kernel, by decide +kernel⟩, xf_mt 481 (by decide +kernel) rfl, xf_mt 482 (by decide +kernel) rfl⟩
theorem xq_SC_isHit : xf_vir xny_SC_isHit xnc_SC_isHit 2 (some .boolean) 1 := ⟨⟨xf_mt 487 (by decide +kernel) rfl, xf_mt 1 (by decide +kernel) rfl, by decide +kernel, by decide +kernel, by decide +kernel⟩, xf_mt 486 (by decide +kernel) rfl, xf_ms 20 (by decide +kernel) rfl⟩
theorem xq_SC_token : xf_vir xny_SC_token xnc_SC_token 2 (some .int) 1 := ⟨⟨xf_mt 491 (by decide +kernel) rfl, xf_mt 1 (by decide +kernel) rfl, by decide +kernel, by decide +kernel, by decide +kernel⟩, xf_mt 489 (by decide +kernel) rfl, xf_mt 490 (by decide +kernel) rfl⟩
theorem xq_SC_pass : xf_vir xny_SC_pass xnc_SC_pass 2 (some .boolean) 1 := ⟨⟨xf_mt 495 (by decide +kernel) rfl, xf_mt 1 (by decide +kernel) rfl, by decide +kernel, by decide +kernel, by decide +kernel⟩, xf_mt 493 (by decide +kernel) rfl, xf_mt 494 (by decide +kernel) rfl⟩
theorem xq_SC_where : xf_vir xny_SC_where xnc_SC_where 2 (some .int) 1 := ⟨⟨xf_mt 499 (by decide +kernel) rfl, xf_mt 1 (by decide +kernel) rfl, by decide +kernel, by decide +kernel, by decide +kernel⟩, xf_mt 497 (by decide +kernel) rfl, xf_mt 498 (by decide +kernel) rfl⟩
theorem xq_ST_find : xf_vir xny_ST_find xnc_ST_find 3 (some .int) 1 := ⟨⟨xf_mt 503 (by decide +kernel) rfl, xf_mt 3 (by decide +kernel) rfl, by decide +kernel, by decide +kernel, by decide +kernel⟩, xf_mt 501 (by decide +kernel) rfl, xf_mt 502 (by decide +kernel) rfl⟩
theorem xq_SC_at : xf_vir xny_SC_at xnc_SC_at 2 (some .int) 1 := ⟨⟨xf_mt 507 (by decide +kernel) rfl, xf_mt 1 (by decide +kernel) rfl, by decide +kernel, by decide +kernel, by decide +kernel⟩, xf_mt 505 (by decide +kernel) rfl, xf_mt 506 (by decide +kernel) rfl⟩
theorem xq_SC_item : xf_vir xny_SC_item xnc_SC_item 3 (some .int) 2 := ⟨⟨xf_mt 511 (by decide +kernel) rfl, xf_mt 1 (by decide +kernel) rfl, by decide +kernel, by decide +kernel, by decide +kernel⟩, xf_mt 509 (by decide +kernel) rfl, xf_mt 510 (by decide +kernel) rfl⟩
theorem xq_SC_isUsedItem : xf_vir xny_SC_isUsedItem xnc_SC_isUsedItem 2 (some .boolean) 1 := ⟨⟨xf_mt 515 (by decide +kernel) rfl, xf_mt 1 (by decide +kernel) rfl, by decide +kernel, by decide +kernel, by decide +kernel⟩, xf_mt 514 (by decide +kernel) rfl, xf_ms 21 (by decide +kernel) rfl⟩
theorem xq_SC_used : xf_vir xny_SC_used xnc_SC_used 2 (some .boolean) 1 := ⟨⟨xf_mt 519 (by decide +kernel) rfl, xf_mt 1 (by decide +kernel) rfl, by decide +kernel, by decide +kernel, by decide +kernel⟩, xf_mt 517 (by decide +kernel) rfl, xf_mt 518 (by decide +kernel) rfl⟩
theorem xq_SC_version : xf_vir xny_SC_version xnc_SC_version 2 (some .int) 1 := ⟨⟨xf_mt 523 (by decide +kernel) rfl, xf_mt 1 (by decide +kernel) rfl, by decide +kernel, by decide +kernel, by decide +kernel⟩, xf_mt 521 (by decide +kernel) rfl, xf_mt 522 (by decide +kernel) rfl⟩
theorem xq_SC_hash : xf_vir xny_SC_hash xnc_SC_hash 2 (some .int) 1 := ⟨⟨xf_mt 527 (by decide +kernel) rfl, xf_mt 1 (by decide +kernel) rfl, by decide +kernel, by decide +kernel, by decide +kernel⟩, xf_mt 525 (by decide +kernel) rfl, xf_mt 526 (by decide +kernel) rfl⟩
theorem xq_SC_count : xf_vir xny_SC_count xnc_SC_count 2 (some .int) 1 := ⟨⟨xf_mt 533 (by decide +kernel) rfl, xf_mt 1 (by decide +kernel) rfl, by decide +kernel, by decide +kernel, by decide +kernel⟩, xf_mt 531 (by decide +kernel) rfl, xf_mt 532 (by decide +kernel) rfl⟩
theorem xq_LW_cell : xf_sta xny_LW_cell xnc_LW_cell 2 (some .int) 2 := ⟨⟨xf_mt 536 (by decide +kernel) rfl, xf_mt 0 (by decide +kernel) rfl, by decide +kernel, by decide +kernel, by decide +kernel⟩, xf_mt 535 (by decide +kernel) rfl⟩
theorem xq_MO_hash : xf_vir xny_MO_hash xnc_MO_hash 2 (some .int) 1 := ⟨⟨xf_mt 661 (by decide +kernel) rfl, xf_mt 8 (by decide +kernel) rfl, by decide +kernel, by decide +kernel, by decide +kernel⟩, xf_mt 659 (by decide +kernel) rfl, xf_mt 660 (by decide +kernel) rfl⟩
theorem xq_MO_bucket : xf_sta xny_MO_bucket xnc_MO_bucket 3 (some .int) 2 := ⟨⟨xf_mt 664 (by decide +kernel) rfl, xf_mt 8 (by decide +kernel) rfl, by decide +kernel, by decide +kernel, by decide +kernel⟩, xf_mt 663 (by decide +kernel) rfl⟩
theorem xq_MO_mix : xf_sta xny_MO_mix xnc_MO_mix 1 (some .int) 1 := ⟨⟨xf_mt 667 (by decide +kernel) rfl, xf_mt 8 (by decide +kernel) rfl, by decide +kernel, by decide +kernel, by decide +kernel⟩, xf_mt 666 (by decide +kernel) rfl⟩
theorem xq_MO_tag : xf_sta xny_MO_tag xnc_MO_tag 1 (some .int) 1 := ⟨⟨xf_mt 671 (by decide +kernel) rfl, xf_mt 8 (by decide +kernel) rfl, by decide +kernel, by decide +kernel, by decide +kernel⟩, xf_mt 670 (by decide +kernel) rfl⟩
theorem xq_MO_stripe : xf_sta xny_MO_stripe xnc_MO_stripe 1 (some .int) 1 := ⟨⟨xf_mt 674 (by decide +kernel) rfl, xf_mt 8 (by decide +kernel) rfl, by decide +kernel, by decide +kernel, by decide +kernel⟩, xf_mt 673 (by decide +kernel) rfl⟩
theorem xq_MO_where : xf_vir xny_MO_where xnc_MO_where 3 (some .int) 1 := ⟨⟨xf_mt 678 (by decide +kernel) rfl, xf_mt 8 (by decide +kernel) rfl, by decide +kernel, by decide +kernel, by decide +kernel⟩, xf_mt 676 (by decide +kernel) rfl, xf_mt 677 (by decide +kernel) rfl⟩
theorem xq_MO_search : xf_vir xny_MO_search xnc_MO_search 6 (some .int) 2 := ⟨⟨xf_mt 682 (by decide +kernel) rfl, xf_mt 8 (by decide +kernel) rfl, by decide +kernel, by decide +kernel, by decide +kernel⟩, xf_mt 681 (by decide +kernel) rfl, xf_ms 22 (by decide +kernel) rfl⟩
theorem xq_MO_write : xf_vir xny_MO_write xnc_MO_write 6 (some .boolean) 5 := ⟨⟨xf_mt 686 (by decide +kernel) rfl, xf_mt 8 (by decide +kernel) rfl, by decide +kernel, by decide +kernel, by decide +kernel⟩, xf_mt 684 (by decide +kernel) rfl, xf_mt 685 (by decide +kernel) rfl⟩
theorem xq_MO_work : xf_vir xny_MO_work xnc_MO_work 3 (some .int) 1 := ⟨⟨xf_mt 690 (by decide +kernel) rfl, xf_mt 8 (by decide +kernel) rfl, by decide +kernel, by decide +kernel, by decide +kernel⟩, xf_mt 688 (by decide +kernel) rfl, xf_mt 689 (by decide +kernel) rfl⟩
theorem xq_MO_one : xf_vir xny_MO_one xnc_MO_one 1 none 0 := ⟨⟨xf_mt 694 (by decide +kernel) rfl, xf_mt 8 (by decide +kernel) rfl, by decide +kernel, by decide +kernel, by decide +kernel⟩, xf_mt 693 (by decide +kernel) rfl, xf_ms 23 (by decide +kernel) rfl⟩
theorem xq_MO_begin : xf_vir xny_MO_begin xnc_MO_begin 3 none 0 := ⟨⟨xf_mt 698 (by decide +kernel) rfl, xf_mt 8 (by decide +kernel) rfl, by decide +kernel, by decide +kernel, by decide +kernel⟩, xf_mt 697 (by decide +kernel) rfl, xf_ms 24 (by decide +kernel) rfl⟩
theorem xq_MO_lookBoth : xf_vir xny_MO_lookBoth xnc_MO_lookBoth 3 (some .int) 1 := ⟨⟨xf_mt 702 (by decide +kernel) rfl, xf_mt 8 (by decide +kernel) rfl, by decide +kernel, by decide +kernel, by decide +kernel⟩, xf_mt 701 (by decide +kernel) rfl, xf_ms 25 (by decide +kernel) rfl⟩
theorem xq_MO_look : xf_vir xny_MO_look xnc_MO_look 7 (some .int) 2 := ⟨⟨xf_mt 706 (by decide +kernel) rfl, xf_mt 8 (by decide +kernel) rfl, by decide +kernel, by decide +kernel, by decide +kernel⟩, xf_mt 705 (by decide +kernel) rfl, xf_ms 26 (by decide +kernel) rfl⟩
theorem xq_MO_over : xf_vir xny_MO_over xnc_MO_over 2 (some .boolean) 1 := ⟨⟨xf_mt 710 (by decide +kernel) rfl, xf_mt 8 (by decide +kernel) rfl, by decide +kernel, by decide +kernel, by decide +kernel⟩, xf_mt 709 (by decide +kernel) rfl, xf_ms 27 (by decide +kernel) rfl⟩
theorem xq_MO_remove : xf_vir xny_MO_remove xnc_MO_remove 3 none 1 := ⟨⟨xf_mt 714 (by decide +kernel) rfl, xf_mt 8 (by decide +kernel) rfl, by decide +kernel, by decide +kernel, by decide +kernel⟩, xf_mt 713 (by decide +kernel) rfl, xf_ms 28 (by decide +kernel) rfl⟩
theorem xq_MO_finish : xf_vir xny_MO_finish xnc_MO_finish 2 none 1 := ⟨⟨xf_mt 718 (by decide +kernel) rfl, xf_mt 8 (by decide +kernel) rfl, by decide +kernel, by decide +kernel, by decide +kernel⟩, xf_mt 717 (by decide +kernel) rfl, xf_ms 29 (by decide +kernel) rfl⟩
theorem xq_MO_many : xf_vir xny_MO_many xnc_MO_many 3 (some .int) 0 := ⟨⟨xf_mt 722 (by decide +kernel) rfl, xf_mt 8 (by decide +kernel) rfl, by decide +kernel, by decide +kernel, by decide +kernel⟩, xf_mt 721 (by decide +kernel) rfl, xf_ms 30 (by decide +kernel) rfl⟩
theorem xq_MO_stamp : xf_vir xny_MO_stamp xnc_MO_stamp 2 none 1 := ⟨⟨xf_mt 726 (by decide +kernel) rfl, xf_mt 8 (by decide +kernel) rfl, by decide +kernel, by decide +kernel, by decide +kernel⟩, xf_mt 725 (by decide +kernel) rfl, xf_ms 31 (by decide +kernel) rfl⟩
theorem xq_MO_evict : xf_vir xny_MO_evict xnc_MO_evict 2 none 0 := ⟨⟨xf_mt 730 (by decide +kernel) rfl, xf_mt 8 (by decide +kernel) rfl, by decide +kernel, by decide +kernel, by decide +kernel⟩, xf_mt 729 (by decide +kernel) rfl, xf_ms 32 (by decide +kernel) rfl⟩
theorem xq_MO_seek : xf_vir xny_MO_seek xnc_MO_seek 4 none 0 := ⟨⟨xf_mt 734 (by decide +kernel) rfl, xf_mt 8 (by decide +kernel) rfl, by decide +kernel, by decide +kernel, by decide +kernel⟩, xf_mt 733 (by decide +kernel) rfl, xf_ms 33 (by decide +kernel) rfl⟩
theorem xq_MO_leads : xf_vir xny_MO_leads xnc_MO_leads 9 (some .boolean) 2 := ⟨⟨xf_mt 738 (by decide +kernel) rfl, xf_mt 8 (by decide +kernel) rfl, by decide +kernel, by decide +kernel, by decide +kernel⟩, xf_mt 737 (by decide +kernel) rfl, xf_ms 34 (by decide +kernel) rfl⟩
theorem xq_MO_move : xf_vir xny_MO_move xnc_MO_move 2 none 0 := ⟨⟨xf_mt 742 (by decide +kernel) rfl, xf_mt 8 (by decide +kernel) rfl, by decide +kernel, by decide +kernel, by decide +kernel⟩, xf_mt 741 (by decide +kernel) rfl, xf_ms 35 (by decide +kernel) rfl⟩
theorem xq_MO_enter : xf_vir xny_MO_enter xnc_MO_enter 2 none 0 := ⟨⟨xf_mt 746 (by decide +kernel) rfl, xf_mt 8 (by decide +kernel) rfl, by decide +kernel, by decide +kernel, by decide +kernel⟩, xf_mt 745 (by decide +kernel) rfl, xf_ms 36 (by decide +kernel) rfl⟩
theorem xq_MO_outcome : xf_vir xny_MO_outcome xnc_MO_outcome 1 (some .int) 0 := ⟨⟨xf_mt 750 (by decide +kernel) rfl, xf_mt 8 (by decide +kernel) rfl, by decide +kernel, by decide +kernel, by decide +kernel⟩, xf_mt 748 (by decide +kernel) rfl, xf_mt 749 (by decide +kernel) rfl⟩
theorem xq_MO_get : xf_vir xny_MO_get xnc_MO_get 3 (some .boolean) 2 := ⟨⟨xf_mt 754 (by decide +kernel) rfl, xf_mt 8 (by decide +kernel) rfl, by decide +kernel, by decide +kernel, by decide +kernel⟩, xf_mt 752 (by decide +kernel) rfl, xf_mt 753 (by decide +kernel) rfl⟩
theorem xq_MO_reader : xf_sta xny_MO_reader xnc_MO_reader 1 (some .boolean) 1 := ⟨⟨xf_mt 757 (by decide +kernel) rfl, xf_mt 8 (by decide +kernel) rfl, by decide +kernel, by decide +kernel, by decide +kernel⟩, xf_mt 756 (by decide +kernel) rfl⟩
theorem xq_MO_reading : xf_vir xny_MO_reading xnc_MO_reading 2 (some .boolean) 1 := ⟨⟨xf_mt 761 (by decide +kernel) rfl, xf_mt 8 (by decide +kernel) rfl, by decide +kernel, by decide +kernel, by decide +kernel⟩, xf_mt 760 (by decide +kernel) rfl, xf_ms 37 (by decide +kernel) rfl⟩
theorem xq_MO_step : xf_vir xny_MO_step xnc_MO_step 3 (some .int) 1 := ⟨⟨xf_mt 765 (by decide +kernel) rfl, xf_mt 8 (by decide +kernel) rfl, by decide +kernel, by decide +kernel, by decide +kernel⟩, xf_mt 763 (by decide +kernel) rfl, xf_mt 764 (by decide +kernel) rfl⟩
theorem xq_MO_keep : xf_vir xny_MO_keep xnc_MO_keep 3 none 2 := ⟨⟨xf_mt 769 (by decide +kernel) rfl, xf_mt 8 (by decide +kernel) rfl, by decide +kernel, by decide +kernel, by decide +kernel⟩, xf_mt 768 (by decide +kernel) rfl, xf_ms 38 (by decide +kernel) rfl⟩
theorem xq_MO_find : xf_vir xny_MO_find xnc_MO_find 4 none 2 := ⟨⟨xf_mt 773 (by decide +kernel) rfl, xf_mt 8 (by decide +kernel) rfl, by decide +kernel, by decide +kernel, by decide +kernel⟩, xf_mt 772 (by decide +kernel) rfl, xf_ms 39 (by decide +kernel) rfl⟩
theorem xq_MO_copy : xf_vir xny_MO_copy xnc_MO_copy 3 none 1 := ⟨⟨xf_mt 777 (by decide +kernel) rfl, xf_mt 8 (by decide +kernel) rfl, by decide +kernel, by decide +kernel, by decide +kernel⟩, xf_mt 776 (by decide +kernel) rfl, xf_ms 40 (by decide +kernel) rfl⟩
theorem xq_MO_check : xf_vir xny_MO_check xnc_MO_check 3 none 1 := ⟨⟨xf_mt 781 (by decide +kernel) rfl, xf_mt 8 (by decide +kernel) rfl, by decide +kernel, by decide +kernel, by decide +kernel⟩, xf_mt 780 (by decide +kernel) rfl, xf_ms 41 (by decide +kernel) rfl⟩
theorem xq_MO_locked : xf_vir xny_MO_locked xnc_MO_locked 5 none 1 := ⟨⟨xf_mt 785 (by decide +kernel) rfl, xf_mt 8 (by decide +kernel) rfl, by decide +kernel, by decide +kernel, by decide +kernel⟩, xf_mt 784 (by decide +kernel) rfl, xf_ms 42 (by decide +kernel) rfl⟩
theorem xq_MO_state : xf_vir xny_MO_state xnc_MO_state 2 (some .int) 1 := ⟨⟨xf_mt 789 (by decide +kernel) rfl, xf_mt 8 (by decide +kernel) rfl, by decide +kernel, by decide +kernel, by decide +kernel⟩, xf_mt 787 (by decide +kernel) rfl, xf_mt 788 (by decide +kernel) rfl⟩
theorem xq_MO_value : xf_vir xny_MO_value xnc_MO_value 2 (some .int) 1 := ⟨⟨xf_mt 793 (by decide +kernel) rfl, xf_mt 8 (by decide +kernel) rfl, by decide +kernel, by decide +kernel, by decide +kernel⟩, xf_mt 791 (by decide +kernel) rfl, xf_mt 792 (by decide +kernel) rfl⟩
theorem xq_MO_token : xf_vir xny_MO_token xnc_MO_token 2 (some .int) 1 := ⟨⟨xf_mt 797 (by decide +kernel) rfl, xf_mt 8 (by decide +kernel) rfl, by decide +kernel, by decide +kernel, by decide +kernel⟩, xf_mt 795 (by decide +kernel) rfl, xf_mt 796 (by decide +kernel) rfl⟩
theorem xq_MO_pass : xf_vir xny_MO_pass xnc_MO_pass 2 (some .boolean) 1 := ⟨⟨xf_mt 801 (by decide +kernel) rfl, xf_mt 8 (by decide +kernel) rfl, by decide +kernel, by decide +kernel, by decide +kernel⟩, xf_mt 799 (by decide +kernel) rfl, xf_mt 800 (by decide +kernel) rfl⟩
theorem xq_MO_at : xf_vir xny_MO_at xnc_MO_at 2 (some .int) 1 := ⟨⟨xf_mt 805 (by decide +kernel) rfl, xf_mt 8 (by decide +kernel) rfl, by decide +kernel, by decide +kernel, by decide +kernel⟩, xf_mt 803 (by decide +kernel) rfl, xf_mt 804 (by decide +kernel) rfl⟩
theorem xq_MO_used : xf_vir xny_MO_used xnc_MO_used 2 (some .boolean) 1 := ⟨⟨xf_mt 809 (by decide +kernel) rfl, xf_mt 8 (by decide +kernel) rfl, by decide +kernel, by decide +kernel, by decide +kernel⟩, xf_mt 807 (by decide +kernel) rfl, xf_mt 808 (by decide +kernel) rfl⟩
theorem xq_MO_item : xf_vir xny_MO_item xnc_MO_item 3 (some .int) 2 := ⟨⟨xf_mt 813 (by decide +kernel) rfl, xf_mt 8 (by decide +kernel) rfl, by decide +kernel, by decide +kernel, by decide +kernel⟩, xf_mt 811 (by decide +kernel) rfl, xf_mt 812 (by decide +kernel) rfl⟩
theorem xq_MO_version : xf_vir xny_MO_version xnc_MO_version 2 (some .int) 1 := ⟨⟨xf_mt 817 (by decide +kernel) rfl, xf_mt 8 (by decide +kernel) rfl, by decide +kernel, by decide +kernel, by decide +kernel⟩, xf_mt 815 (by decide +kernel) rfl, xf_mt 816 (by decide +kernel) rfl⟩
theorem xq_MO_count : xf_vir xny_MO_count xnc_MO_count 2 (some .int) 1 := ⟨⟨xf_mt 821 (by decide +kernel) rfl, xf_mt 8 (by decide +kernel) rfl, by decide +kernel, by decide +kernel, by decide +kernel⟩, xf_mt 819 (by decide +kernel) rfl, xf_mt 820 (by decide +kernel) rfl⟩
end
section
/-! The worlds: the class's 21 cells and the reference's 18, at addresses by number; what holds of them. Printed by wip/gen/mkworlds.py. -/
abbrev xw_T : Type := Launch × va_G × (Nat → Nat) × ClassId × ClassId × ClassId × Nat × Nat
def xw_l (P : xw_T) : Launch := P.1
def xw_D (P : xw_T) : va_G := P.2.1
def xw_a (P : xw_T) : Nat → Nat := P.2.2.1
def xw_cI (P : xw_T) : ClassId := P.2.2.2.1
def xw_cZ (P : xw_T) : ClassId := P.2.2.2.2.1
def xw_cR (P : xw_T) : ClassId := P.2.2.2.2.2.1
def xw_n (P : xw_T) : Nat := P.2.2.2.2.2.2.1
def xw_w (P : xw_T) : Nat := P.2.2.2.2.2.2.2
abbrev xw_ty (P : xw_T) : List (ClassId × FieldType) := [(xw_cI P, .int), (xw_cZ P, .boolean), (xw_cR P, .object xnR_RD)]
def xw_len (P : xw_T) : Nat → Nat
  | 5 => 8 * xw_w P
  | 6 => xw_n P
  | 7 => xw_n P
  | 8 => xw_n P
  | 9 => xw_n P
  | 10 => xw_n P
  | 11 => xw_n P
  | 12 => 4
  | 14 => 5
  | 15 => 8 * xw_w P
  | 16 => 8 * xw_w P
  | 17 => 8 * xw_w P
  | 101 => 32
  | 102 => 32
  | 103 => 32
  | 104 => 32
  | 105 => 32
  | 106 => 32
  | 107 => 32
  | 108 => 4
  | 109 => 5
  | 110 => 3
  | 111 => 3
  | 112 => 3
  | 113 => 3
  | 114 => 3
  | 115 => 3
  | 116 => 3
  | 117 => 3
  | _ => 0
def xw_isI : Nat → Bool
  | 5 => true
  | 6 => true
  | 7 => true
  | 8 => true
  | 9 => true
  | 12 => true
  | 14 => true
  | 15 => true
  | 16 => true
  | 17 => true
  | 101 => true
  | 103 => true
  | 104 => true
  | 105 => true
  | 106 => true
  | 108 => true
  | 109 => true
  | 110 => true
  | 111 => true
  | 112 => true
  | 113 => true
  | 114 => true
  | 115 => true
  | 116 => true
  | 117 => true
  | _ => false
def xw_isZ : Nat → Bool
  | 10 => true
  | 11 => true
  | 102 => true
  | 107 => true
  | _ => false
def xw_rd (P : xw_T) (σ : xf_T) (r : Nat) : Nat × va_E := (xw_a P (18 + r), .inr (5, [.ref (xw_a P 2), .ref (xw_a P 3), .ref (xw_a P 1), .int (σ.1 (24 + 8 * r)), .int (σ.1 (24 + 8 * r + 1)), .int (σ.1 (24 + 8 * r + 2)), .int (σ.1 (24 + 8 * r + 3)), .int (σ.1 (24 + 8 * r + 4)), .int (σ.1 (24 + 8 * r + 5)), .int (σ.1 (24 + 8 * r + 6)), .int (σ.1 (24 + 8 * r + 7))]))
def xw_W (P : xw_T) : xf_S → va_W
  | (σ, τ) => [(xw_a P 0, .inr (0, [.ref (xw_a P 1), .ref (xw_a P 2), .ref (xw_a P 3), .ref (xw_a P 4)])),
    (xw_a P 1, .inr (1, [.int (σ.1 0), .int (σ.1 1), .int (σ.1 2), .int (σ.1 3), .int (σ.1 4), .int (σ.1 5)])),
    (xw_a P 2, .inr (2, [.ref (xw_a P 1), .int (nI (xw_n P)), .int (nI (xw_w P)), .ref (xw_a P 5), .ref (xw_a P 6), .ref (xw_a P 7), .ref (xw_a P 8), .ref (xw_a P 9), .ref (xw_a P 10), .ref (xw_a P 11), .ref (xw_a P 12), .int (σ.1 6), .int (σ.1 7), .int (σ.1 8)])),
    (xw_a P 3, .inr (3, [.ref (xw_a P 2), .ref (xw_a P 1), .ref (xw_a P 13), .int (σ.1 9), .int (σ.1 10), .int (σ.1 11), .int (σ.1 12), .int (σ.1 13), .int (σ.1 14), .int (σ.1 15), .int (σ.1 16), .int (σ.1 17), .int (σ.1 18)])),
    (xw_a P 4, .inl (xw_cR P, 3, .inr (.inr (.inr (.inr (fun k => some (xw_a P (18 + k)))))))),
    (xw_a P 5, .inl (xw_cI P, 8 * xw_w P, .inl (σ.2 5))),
    (xw_a P 6, .inl (xw_cI P, xw_n P, .inl (σ.2 6))),
    (xw_a P 7, .inl (xw_cI P, xw_n P, .inl (σ.2 7))),
    (xw_a P 8, .inl (xw_cI P, xw_n P, .inl (σ.2 8))),
    (xw_a P 9, .inl (xw_cI P, xw_n P, .inl (σ.2 9))),
    (xw_a P 10, .inl (xw_cZ P, xw_n P, .inl (σ.2 10))),
    (xw_a P 11, .inl (xw_cZ P, xw_n P, .inl (σ.2 11))),
    (xw_a P 12, .inl (xw_cI P, 4, .inl (σ.2 12))),
    (xw_a P 13, .inr (4, [.ref (xw_a P 2), .ref (xw_a P 14), .int (σ.1 19), .ref (xw_a P 15), .ref (xw_a P 16), .ref (xw_a P 17), .int (σ.1 20)])),
    (xw_a P 14, .inl (xw_cI P, 5, .inl (σ.2 14))),
    (xw_a P 15, .inl (xw_cI P, 8 * xw_w P, .inl (σ.2 15))),
    (xw_a P 16, .inl (xw_cI P, 8 * xw_w P, .inl (σ.2 16))),
    (xw_a P 17, .inl (xw_cI P, 8 * xw_w P, .inl (σ.2 17))),
    xw_rd P σ 0,
    xw_rd P σ 1,
    xw_rd P σ 2,
    (xw_a P 100, .inr (6, [.int (nI (xw_n P)), .int (nI (xw_w P)), .int (τ.1 0), .int (τ.1 1), .int (τ.1 2), .ref (xw_a P 101), .ref (xw_a P 102), .ref (xw_a P 103), .ref (xw_a P 104), .ref (xw_a P 105), .ref (xw_a P 106), .ref (xw_a P 107), .ref (xw_a P 108), .int (τ.1 3), .int (τ.1 4), .int (τ.1 5), .int (τ.1 6), .int (τ.1 7), .int (τ.1 8), .int (τ.1 9), .int (τ.1 10), .int (τ.1 11), .int (τ.1 12), .ref (xw_a P 109), .ref (xw_a P 110), .ref (xw_a P 111), .ref (xw_a P 112), .ref (xw_a P 113), .ref (xw_a P 114), .ref (xw_a P 115), .ref (xw_a P 116), .ref (xw_a P 117), .int (τ.1 13), .int (τ.1 14), .int (τ.1 15), .int (τ.1 16), .int (τ.1 17), .int (τ.1 18)])),
    (xw_a P 101, .inl (xw_cI P, 32, .inl (τ.2 1))),
    (xw_a P 102, .inl (xw_cZ P, 32, .inl (τ.2 2))),
    (xw_a P 103, .inl (xw_cI P, 32, .inl (τ.2 3))),
    (xw_a P 104, .inl (xw_cI P, 32, .inl (τ.2 4))),
    (xw_a P 105, .inl (xw_cI P, 32, .inl (τ.2 5))),
    (xw_a P 106, .inl (xw_cI P, 32, .inl (τ.2 6))),
    (xw_a P 107, .inl (xw_cZ P, 32, .inl (τ.2 7))),
    (xw_a P 108, .inl (xw_cI P, 4, .inl (τ.2 8))),
    (xw_a P 109, .inl (xw_cI P, 5, .inl (τ.2 9))),
    (xw_a P 110, .inl (xw_cI P, 3, .inl (τ.2 10))),
    (xw_a P 111, .inl (xw_cI P, 3, .inl (τ.2 11))),
    (xw_a P 112, .inl (xw_cI P, 3, .inl (τ.2 12))),
    (xw_a P 113, .inl (xw_cI P, 3, .inl (τ.2 13))),
    (xw_a P 114, .inl (xw_cI P, 3, .inl (τ.2 14))),
    (xw_a P 115, .inl (xw_cI P, 3, .inl (τ.2 15))),
    (xw_a P 116, .inl (xw_cI P, 3, .inl (τ.2 16))),
    (xw_a P 117, .inl (xw_cI P, 3, .inl (τ.2 17)))]
theorem xrX_SC {P : xw_T} {σ τ : xf_T} : xf_rcv (xw_W P) (σ, τ) (xw_a P 0) xnR_SC := ⟨0, 0, _, _, rfl, rfl, rfl⟩
theorem xrX_TA {P : xw_T} {σ τ : xf_T} : xf_rcv (xw_W P) (σ, τ) (xw_a P 1) xnR_TA := ⟨1, 1, _, _, rfl, rfl, rfl⟩
theorem xrX_ST {P : xw_T} {σ τ : xf_T} : xf_rcv (xw_W P) (σ, τ) (xw_a P 2) xnR_ST := ⟨2, 2, _, _, rfl, rfl, rfl⟩
theorem xrX_WR {P : xw_T} {σ τ : xf_T} : xf_rcv (xw_W P) (σ, τ) (xw_a P 3) xnR_WR := ⟨3, 3, _, _, rfl, rfl, rfl⟩
theorem xrX_PA {P : xw_T} {σ τ : xf_T} : xf_rcv (xw_W P) (σ, τ) (xw_a P 13) xnR_PA := ⟨13, 4, _, _, rfl, rfl, rfl⟩
theorem xrM_MO {P : xw_T} {σ τ : xf_T} : xf_rcv (xw_W P) (σ, τ) (xw_a P 100) xnR_MO := ⟨21, 6, _, _, rfl, rfl, rfl⟩
theorem xw_at_rd {P : xw_T} {σ τ : xf_T} {r : Nat} (hr : r < 3) : (xw_W P (σ, τ))[18 + r]? = some (xw_rd P σ r) := by
  have h9 : r = 0 ∨ r = 1 ∨ r = 2 := by omega
  rcases h9 with rfl | rfl | rfl <;> rfl
theorem xrX_RD {P : xw_T} {σ τ : xf_T} {r : Nat} (hr : r < 3) : xf_rcv (xw_W P) (σ, τ) (xw_a P (18 + r)) xnR_RD := ⟨18 + r, 5, _, _, xw_at_rd hr, rfl, rfl⟩
section XWF
variable {X : xf_C} {l : Launch} {own : String} {cc : ByteArray} {nL fr lo : Nat} {P : xw_T} {D : va_G} {tys : List (ClassId × FieldType)} {pc : Nat} {L : List (Option Value)} {st : List Value} {σ τ : xf_T} {idx : Nat}
theorem xg_SC_tally (hX : xf_ok X l own cc nL fr lo (xw_W P) D tys) (np : Nat) (hp : pc + 3 = np) (hl : Cond.fieldLink own idx (xnT_SC 0).1 (xnT_SC 0).2.1 (xnT_SC 0).2.2.1 ∈ xf_GW) (hd : decode cc pc = .ok (.getfield idx, 3)) (kk : xf_V X np L (.ref (xw_a P 1) :: st) (σ, τ)) : xf_V X pc L (.ref (xw_a P 0) :: st) (σ, τ) := xf_get hX np hp xin_SC 0 rfl rfl 0 (by decide) hl rfl hd kk
theorem xg_SC_store (hX : xf_ok X l own cc nL fr lo (xw_W P) D tys) (np : Nat) (hp : pc + 3 = np) (hl : Cond.fieldLink own idx (xnT_SC 1).1 (xnT_SC 1).2.1 (xnT_SC 1).2.2.1 ∈ xf_GW) (hd : decode cc pc = .ok (.getfield idx, 3)) (kk : xf_V X np L (.ref (xw_a P 2) :: st) (σ, τ)) : xf_V X pc L (.ref (xw_a P 0) :: st) (σ, τ) := xf_get hX np hp xin_SC 0 rfl rfl 1 (by decide) hl rfl hd kk
theorem xg_SC_writer (hX : xf_ok X l own cc nL fr lo (xw_W P) D tys) (np : Nat) (hp : pc + 3 = np) (hl : Cond.fieldLink own idx (xnT_SC 2).1 (xnT_SC 2).2.1 (xnT_SC 2).2.2.1 ∈ xf_GW) (hd : decode cc pc = .ok (.getfield idx, 3)) (kk : xf_V X np L (.ref (xw_a P 3) :: st) (σ, τ)) : xf_V X pc L (.ref (xw_a P 0) :: st) (σ, τ) := xf_get hX np hp xin_SC 0 rfl rfl 2 (by decide) hl rfl hd kk
theorem xg_SC_readers (hX : xf_ok X l own cc nL fr lo (xw_W P) D tys) (np : Nat) (hp : pc + 3 = np) (hl : Cond.fieldLink own idx (xnT_SC 3).1 (xnT_SC 3).2.1 (xnT_SC 3).2.2.1 ∈ xf_GW) (hd : decode cc pc = .ok (.getfield idx, 3)) (kk : xf_V X np L (.ref (xw_a P 4) :: st) (σ, τ)) : xf_V X pc L (.ref (xw_a P 0) :: st) (σ, τ) := xf_get hX np hp xin_SC 0 rfl rfl 3 (by decide) hl rfl hd kk
theorem xg_TA_evictions (hX : xf_ok X l own cc nL fr lo (xw_W P) D tys) (np : Nat) (hp : pc + 3 = np) (hl : Cond.fieldLink own idx (xnT_TA 0).1 (xnT_TA 0).2.1 (xnT_TA 0).2.2.1 ∈ xf_GW) (hd : decode cc pc = .ok (.getfield idx, 3)) (kk : xf_V X np L (.int (σ.1 0) :: st) (σ, τ)) : xf_V X pc L (.ref (xw_a P 1) :: st) (σ, τ) := xf_get hX np hp xin_TA 1 rfl rfl 0 (by decide) hl rfl hd kk
theorem xp_TA_evictions (hX : xf_ok X l own cc nL fr lo (xw_W P) D tys) (np : Nat) (hp : pc + 3 = np) {v : Int32} (hl : Cond.fieldLink own idx (xnT_TA 0).1 (xnT_TA 0).2.1 (xnT_TA 0).2.2.1 ∈ xf_GW) (hd : decode cc pc = .ok (.putfield idx, 3)) (kk : xf_V X np L st (xf_I σ 0 v, τ)) : xf_V X pc L (.int v :: .ref (xw_a P 1) :: st) (σ, τ) := xf_put hX np hp xin_TA xnK_TA xnO_TA xnM_TA 1 rfl rfl 0 (by decide) hl rfl (by decide +kernel) (Nat.le_of_ble_eq_true rfl) (σ' := (xf_I σ 0 v, τ)) rfl hd kk
theorem xg_TA_moves (hX : xf_ok X l own cc nL fr lo (xw_W P) D tys) (np : Nat) (hp : pc + 3 = np) (hl : Cond.fieldLink own idx (xnT_TA 1).1 (xnT_TA 1).2.1 (xnT_TA 1).2.2.1 ∈ xf_GW) (hd : decode cc pc = .ok (.getfield idx, 3)) (kk : xf_V X np L (.int (σ.1 1) :: st) (σ, τ)) : xf_V X pc L (.ref (xw_a P 1) :: st) (σ, τ) := xf_get hX np hp xin_TA 1 rfl rfl 1 (by decide) hl rfl hd kk
theorem xp_TA_moves (hX : xf_ok X l own cc nL fr lo (xw_W P) D tys) (np : Nat) (hp : pc + 3 = np) {v : Int32} (hl : Cond.fieldLink own idx (xnT_TA 1).1 (xnT_TA 1).2.1 (xnT_TA 1).2.2.1 ∈ xf_GW) (hd : decode cc pc = .ok (.putfield idx, 3)) (kk : xf_V X np L st (xf_I σ 1 v, τ)) : xf_V X pc L (.int v :: .ref (xw_a P 1) :: st) (σ, τ) := xf_put hX np hp xin_TA xnK_TA xnO_TA xnM_TA 1 rfl rfl 1 (by decide) hl rfl (by decide +kernel) (Nat.le_of_ble_eq_true rfl) (σ' := (xf_I σ 1 v, τ)) rfl hd kk
theorem xg_TA_retries (hX : xf_ok X l own cc nL fr lo (xw_W P) D tys) (np : Nat) (hp : pc + 3 = np) (hl : Cond.fieldLink own idx (xnT_TA 2).1 (xnT_TA 2).2.1 (xnT_TA 2).2.2.1 ∈ xf_GW) (hd : decode cc pc = .ok (.getfield idx, 3)) (kk : xf_V X np L (.int (σ.1 2) :: st) (σ, τ)) : xf_V X pc L (.ref (xw_a P 1) :: st) (σ, τ) := xf_get hX np hp xin_TA 1 rfl rfl 2 (by decide) hl rfl hd kk
theorem xp_TA_retries (hX : xf_ok X l own cc nL fr lo (xw_W P) D tys) (np : Nat) (hp : pc + 3 = np) {v : Int32} (hl : Cond.fieldLink own idx (xnT_TA 2).1 (xnT_TA 2).2.1 (xnT_TA 2).2.2.1 ∈ xf_GW) (hd : decode cc pc = .ok (.putfield idx, 3)) (kk : xf_V X np L st (xf_I σ 2 v, τ)) : xf_V X pc L (.int v :: .ref (xw_a P 1) :: st) (σ, τ) := xf_put hX np hp xin_TA xnK_TA xnO_TA xnM_TA 1 rfl rfl 2 (by decide) hl rfl (by decide +kernel) (Nat.le_of_ble_eq_true rfl) (σ' := (xf_I σ 2 v, τ)) rfl hd kk
theorem xg_TA_waits (hX : xf_ok X l own cc nL fr lo (xw_W P) D tys) (np : Nat) (hp : pc + 3 = np) (hl : Cond.fieldLink own idx (xnT_TA 3).1 (xnT_TA 3).2.1 (xnT_TA 3).2.2.1 ∈ xf_GW) (hd : decode cc pc = .ok (.getfield idx, 3)) (kk : xf_V X np L (.int (σ.1 3) :: st) (σ, τ)) : xf_V X pc L (.ref (xw_a P 1) :: st) (σ, τ) := xf_get hX np hp xin_TA 1 rfl rfl 3 (by decide) hl rfl hd kk
theorem xp_TA_waits (hX : xf_ok X l own cc nL fr lo (xw_W P) D tys) (np : Nat) (hp : pc + 3 = np) {v : Int32} (hl : Cond.fieldLink own idx (xnT_TA 3).1 (xnT_TA 3).2.1 (xnT_TA 3).2.2.1 ∈ xf_GW) (hd : decode cc pc = .ok (.putfield idx, 3)) (kk : xf_V X np L st (xf_I σ 3 v, τ)) : xf_V X pc L (.int v :: .ref (xw_a P 1) :: st) (σ, τ) := xf_put hX np hp xin_TA xnK_TA xnO_TA xnM_TA 1 rfl rfl 3 (by decide) hl rfl (by decide +kernel) (Nat.le_of_ble_eq_true rfl) (σ' := (xf_I σ 3 v, τ)) rfl hd kk
theorem xg_TA_nearMisses (hX : xf_ok X l own cc nL fr lo (xw_W P) D tys) (np : Nat) (hp : pc + 3 = np) (hl : Cond.fieldLink own idx (xnT_TA 4).1 (xnT_TA 4).2.1 (xnT_TA 4).2.2.1 ∈ xf_GW) (hd : decode cc pc = .ok (.getfield idx, 3)) (kk : xf_V X np L (.int (σ.1 4) :: st) (σ, τ)) : xf_V X pc L (.ref (xw_a P 1) :: st) (σ, τ) := xf_get hX np hp xin_TA 1 rfl rfl 4 (by decide) hl rfl hd kk
theorem xp_TA_nearMisses (hX : xf_ok X l own cc nL fr lo (xw_W P) D tys) (np : Nat) (hp : pc + 3 = np) {v : Int32} (hl : Cond.fieldLink own idx (xnT_TA 4).1 (xnT_TA 4).2.1 (xnT_TA 4).2.2.1 ∈ xf_GW) (hd : decode cc pc = .ok (.putfield idx, 3)) (kk : xf_V X np L st (xf_I σ 4 v, τ)) : xf_V X pc L (.int v :: .ref (xw_a P 1) :: st) (σ, τ) := xf_put hX np hp xin_TA xnK_TA xnO_TA xnM_TA 1 rfl rfl 4 (by decide) hl rfl (by decide +kernel) (Nat.le_of_ble_eq_true rfl) (σ' := (xf_I σ 4 v, τ)) rfl hd kk
theorem xg_TA_expiredRemoved (hX : xf_ok X l own cc nL fr lo (xw_W P) D tys) (np : Nat) (hp : pc + 3 = np) (hl : Cond.fieldLink own idx (xnT_TA 5).1 (xnT_TA 5).2.1 (xnT_TA 5).2.2.1 ∈ xf_GW) (hd : decode cc pc = .ok (.getfield idx, 3)) (kk : xf_V X np L (.int (σ.1 5) :: st) (σ, τ)) : xf_V X pc L (.ref (xw_a P 1) :: st) (σ, τ) := xf_get hX np hp xin_TA 1 rfl rfl 5 (by decide) hl rfl hd kk
theorem xp_TA_expiredRemoved (hX : xf_ok X l own cc nL fr lo (xw_W P) D tys) (np : Nat) (hp : pc + 3 = np) {v : Int32} (hl : Cond.fieldLink own idx (xnT_TA 5).1 (xnT_TA 5).2.1 (xnT_TA 5).2.2.1 ∈ xf_GW) (hd : decode cc pc = .ok (.putfield idx, 3)) (kk : xf_V X np L st (xf_I σ 5 v, τ)) : xf_V X pc L (.int v :: .ref (xw_a P 1) :: st) (σ, τ) := xf_put hX np hp xin_TA xnK_TA xnO_TA xnM_TA 1 rfl rfl 5 (by decide) hl rfl (by decide +kernel) (Nat.le_of_ble_eq_true rfl) (σ' := (xf_I σ 5 v, τ)) rfl hd kk
theorem xg_ST_tally (hX : xf_ok X l own cc nL fr lo (xw_W P) D tys) (np : Nat) (hp : pc + 3 = np) (hl : Cond.fieldLink own idx (xnT_ST 0).1 (xnT_ST 0).2.1 (xnT_ST 0).2.2.1 ∈ xf_GW) (hd : decode cc pc = .ok (.getfield idx, 3)) (kk : xf_V X np L (.ref (xw_a P 1) :: st) (σ, τ)) : xf_V X pc L (.ref (xw_a P 2) :: st) (σ, τ) := xf_get hX np hp xin_ST 2 rfl rfl 0 (by decide) hl rfl hd kk
theorem xg_ST_capacity (hX : xf_ok X l own cc nL fr lo (xw_W P) D tys) (np : Nat) (hp : pc + 3 = np) (hl : Cond.fieldLink own idx (xnT_ST 1).1 (xnT_ST 1).2.1 (xnT_ST 1).2.2.1 ∈ xf_GW) (hd : decode cc pc = .ok (.getfield idx, 3)) (kk : xf_V X np L (.int (nI (xw_n P)) :: st) (σ, τ)) : xf_V X pc L (.ref (xw_a P 2) :: st) (σ, τ) := xf_get hX np hp xin_ST 2 rfl rfl 1 (by decide) hl rfl hd kk
theorem xg_ST_ways (hX : xf_ok X l own cc nL fr lo (xw_W P) D tys) (np : Nat) (hp : pc + 3 = np) (hl : Cond.fieldLink own idx (xnT_ST 2).1 (xnT_ST 2).2.1 (xnT_ST 2).2.2.1 ∈ xf_GW) (hd : decode cc pc = .ok (.getfield idx, 3)) (kk : xf_V X np L (.int (nI (xw_w P)) :: st) (σ, τ)) : xf_V X pc L (.ref (xw_a P 2) :: st) (σ, τ) := xf_get hX np hp xin_ST 2 rfl rfl 2 (by decide) hl rfl hd kk
theorem xg_ST_places (hX : xf_ok X l own cc nL fr lo (xw_W P) D tys) (np : Nat) (hp : pc + 3 = np) (hl : Cond.fieldLink own idx (xnT_ST 3).1 (xnT_ST 3).2.1 (xnT_ST 3).2.2.1 ∈ xf_GW) (hd : decode cc pc = .ok (.getfield idx, 3)) (kk : xf_V X np L (.ref (xw_a P 5) :: st) (σ, τ)) : xf_V X pc L (.ref (xw_a P 2) :: st) (σ, τ) := xf_get hX np hp xin_ST 2 rfl rfl 3 (by decide) hl rfl hd kk
theorem xg_ST_keys (hX : xf_ok X l own cc nL fr lo (xw_W P) D tys) (np : Nat) (hp : pc + 3 = np) (hl : Cond.fieldLink own idx (xnT_ST 4).1 (xnT_ST 4).2.1 (xnT_ST 4).2.2.1 ∈ xf_GW) (hd : decode cc pc = .ok (.getfield idx, 3)) (kk : xf_V X np L (.ref (xw_a P 6) :: st) (σ, τ)) : xf_V X pc L (.ref (xw_a P 2) :: st) (σ, τ) := xf_get hX np hp xin_ST 2 rfl rfl 4 (by decide) hl rfl hd kk
theorem xg_ST_values (hX : xf_ok X l own cc nL fr lo (xw_W P) D tys) (np : Nat) (hp : pc + 3 = np) (hl : Cond.fieldLink own idx (xnT_ST 5).1 (xnT_ST 5).2.1 (xnT_ST 5).2.2.1 ∈ xf_GW) (hd : decode cc pc = .ok (.getfield idx, 3)) (kk : xf_V X np L (.ref (xw_a P 7) :: st) (σ, τ)) : xf_V X pc L (.ref (xw_a P 2) :: st) (σ, τ) := xf_get hX np hp xin_ST 2 rfl rfl 5 (by decide) hl rfl hd kk
theorem xg_ST_tokens (hX : xf_ok X l own cc nL fr lo (xw_W P) D tys) (np : Nat) (hp : pc + 3 = np) (hl : Cond.fieldLink own idx (xnT_ST 6).1 (xnT_ST 6).2.1 (xnT_ST 6).2.2.1 ∈ xf_GW) (hd : decode cc pc = .ok (.getfield idx, 3)) (kk : xf_V X np L (.ref (xw_a P 8) :: st) (σ, τ)) : xf_V X pc L (.ref (xw_a P 2) :: st) (σ, τ) := xf_get hX np hp xin_ST 2 rfl rfl 6 (by decide) hl rfl hd kk
theorem xg_ST_expiries (hX : xf_ok X l own cc nL fr lo (xw_W P) D tys) (np : Nat) (hp : pc + 3 = np) (hl : Cond.fieldLink own idx (xnT_ST 7).1 (xnT_ST 7).2.1 (xnT_ST 7).2.2.1 ∈ xf_GW) (hd : decode cc pc = .ok (.getfield idx, 3)) (kk : xf_V X np L (.ref (xw_a P 9) :: st) (σ, τ)) : xf_V X pc L (.ref (xw_a P 2) :: st) (σ, τ) := xf_get hX np hp xin_ST 2 rfl rfl 7 (by decide) hl rfl hd kk
theorem xg_ST_bits (hX : xf_ok X l own cc nL fr lo (xw_W P) D tys) (np : Nat) (hp : pc + 3 = np) (hl : Cond.fieldLink own idx (xnT_ST 8).1 (xnT_ST 8).2.1 (xnT_ST 8).2.2.1 ∈ xf_GW) (hd : decode cc pc = .ok (.getfield idx, 3)) (kk : xf_V X np L (.ref (xw_a P 10) :: st) (σ, τ)) : xf_V X pc L (.ref (xw_a P 2) :: st) (σ, τ) := xf_get hX np hp xin_ST 2 rfl rfl 8 (by decide) hl rfl hd kk
theorem xg_ST_usedFlags (hX : xf_ok X l own cc nL fr lo (xw_W P) D tys) (np : Nat) (hp : pc + 3 = np) (hl : Cond.fieldLink own idx (xnT_ST 9).1 (xnT_ST 9).2.1 (xnT_ST 9).2.2.1 ∈ xf_GW) (hd : decode cc pc = .ok (.getfield idx, 3)) (kk : xf_V X np L (.ref (xw_a P 11) :: st) (σ, τ)) : xf_V X pc L (.ref (xw_a P 2) :: st) (σ, τ) := xf_get hX np hp xin_ST 2 rfl rfl 9 (by decide) hl rfl hd kk
theorem xg_ST_versions (hX : xf_ok X l own cc nL fr lo (xw_W P) D tys) (np : Nat) (hp : pc + 3 = np) (hl : Cond.fieldLink own idx (xnT_ST 10).1 (xnT_ST 10).2.1 (xnT_ST 10).2.2.1 ∈ xf_GW) (hd : decode cc pc = .ok (.getfield idx, 3)) (kk : xf_V X np L (.ref (xw_a P 12) :: st) (σ, τ)) : xf_V X pc L (.ref (xw_a P 2) :: st) (σ, τ) := xf_get hX np hp xin_ST 2 rfl rfl 10 (by decide) hl rfl hd kk
theorem xg_ST_usedCount (hX : xf_ok X l own cc nL fr lo (xw_W P) D tys) (np : Nat) (hp : pc + 3 = np) (hl : Cond.fieldLink own idx (xnT_ST 11).1 (xnT_ST 11).2.1 (xnT_ST 11).2.2.1 ∈ xf_GW) (hd : decode cc pc = .ok (.getfield idx, 3)) (kk : xf_V X np L (.int (σ.1 6) :: st) (σ, τ)) : xf_V X pc L (.ref (xw_a P 2) :: st) (σ, τ) := xf_get hX np hp xin_ST 2 rfl rfl 11 (by decide) hl rfl hd kk
theorem xp_ST_usedCount (hX : xf_ok X l own cc nL fr lo (xw_W P) D tys) (np : Nat) (hp : pc + 3 = np) {v : Int32} (hl : Cond.fieldLink own idx (xnT_ST 11).1 (xnT_ST 11).2.1 (xnT_ST 11).2.2.1 ∈ xf_GW) (hd : decode cc pc = .ok (.putfield idx, 3)) (kk : xf_V X np L st (xf_I σ 6 v, τ)) : xf_V X pc L (.int v :: .ref (xw_a P 2) :: st) (σ, τ) := xf_put hX np hp xin_ST xnK_ST xnO_ST xnM_ST 2 rfl rfl 11 (by decide) hl rfl (by decide +kernel) (Nat.le_of_ble_eq_true rfl) (σ' := (xf_I σ 6 v, τ)) rfl hd kk
theorem xg_ST_time (hX : xf_ok X l own cc nL fr lo (xw_W P) D tys) (np : Nat) (hp : pc + 3 = np) (hl : Cond.fieldLink own idx (xnT_ST 12).1 (xnT_ST 12).2.1 (xnT_ST 12).2.2.1 ∈ xf_GW) (hd : decode cc pc = .ok (.getfield idx, 3)) (kk : xf_V X np L (.int (σ.1 7) :: st) (σ, τ)) : xf_V X pc L (.ref (xw_a P 2) :: st) (σ, τ) := xf_get hX np hp xin_ST 2 rfl rfl 12 (by decide) hl rfl hd kk
theorem xp_ST_time (hX : xf_ok X l own cc nL fr lo (xw_W P) D tys) (np : Nat) (hp : pc + 3 = np) {v : Int32} (hl : Cond.fieldLink own idx (xnT_ST 12).1 (xnT_ST 12).2.1 (xnT_ST 12).2.2.1 ∈ xf_GW) (hd : decode cc pc = .ok (.putfield idx, 3)) (kk : xf_V X np L st (xf_I σ 7 v, τ)) : xf_V X pc L (.int v :: .ref (xw_a P 2) :: st) (σ, τ) := xf_put hX np hp xin_ST xnK_ST xnO_ST xnM_ST 2 rfl rfl 12 (by decide) hl rfl (by decide +kernel) (Nat.le_of_ble_eq_true rfl) (σ' := (xf_I σ 7 v, τ)) rfl hd kk
theorem xg_ST_latestToken (hX : xf_ok X l own cc nL fr lo (xw_W P) D tys) (np : Nat) (hp : pc + 3 = np) (hl : Cond.fieldLink own idx (xnT_ST 13).1 (xnT_ST 13).2.1 (xnT_ST 13).2.2.1 ∈ xf_GW) (hd : decode cc pc = .ok (.getfield idx, 3)) (kk : xf_V X np L (.int (σ.1 8) :: st) (σ, τ)) : xf_V X pc L (.ref (xw_a P 2) :: st) (σ, τ) := xf_get hX np hp xin_ST 2 rfl rfl 13 (by decide) hl rfl hd kk
theorem xp_ST_latestToken (hX : xf_ok X l own cc nL fr lo (xw_W P) D tys) (np : Nat) (hp : pc + 3 = np) {v : Int32} (hl : Cond.fieldLink own idx (xnT_ST 13).1 (xnT_ST 13).2.1 (xnT_ST 13).2.2.1 ∈ xf_GW) (hd : decode cc pc = .ok (.putfield idx, 3)) (kk : xf_V X np L st (xf_I σ 8 v, τ)) : xf_V X pc L (.int v :: .ref (xw_a P 2) :: st) (σ, τ) := xf_put hX np hp xin_ST xnK_ST xnO_ST xnM_ST 2 rfl rfl 13 (by decide) hl rfl (by decide +kernel) (Nat.le_of_ble_eq_true rfl) (σ' := (xf_I σ 8 v, τ)) rfl hd kk
theorem xg_WR_store (hX : xf_ok X l own cc nL fr lo (xw_W P) D tys) (np : Nat) (hp : pc + 3 = np) (hl : Cond.fieldLink own idx (xnT_WR 0).1 (xnT_WR 0).2.1 (xnT_WR 0).2.2.1 ∈ xf_GW) (hd : decode cc pc = .ok (.getfield idx, 3)) (kk : xf_V X np L (.ref (xw_a P 2) :: st) (σ, τ)) : xf_V X pc L (.ref (xw_a P 3) :: st) (σ, τ) := xf_get hX np hp xin_WR 3 rfl rfl 0 (by decide) hl rfl hd kk
theorem xg_WR_tally (hX : xf_ok X l own cc nL fr lo (xw_W P) D tys) (np : Nat) (hp : pc + 3 = np) (hl : Cond.fieldLink own idx (xnT_WR 1).1 (xnT_WR 1).2.1 (xnT_WR 1).2.2.1 ∈ xf_GW) (hd : decode cc pc = .ok (.getfield idx, 3)) (kk : xf_V X np L (.ref (xw_a P 1) :: st) (σ, τ)) : xf_V X pc L (.ref (xw_a P 3) :: st) (σ, τ) := xf_get hX np hp xin_WR 3 rfl rfl 1 (by decide) hl rfl hd kk
theorem xg_WR_path (hX : xf_ok X l own cc nL fr lo (xw_W P) D tys) (np : Nat) (hp : pc + 3 = np) (hl : Cond.fieldLink own idx (xnT_WR 2).1 (xnT_WR 2).2.1 (xnT_WR 2).2.2.1 ∈ xf_GW) (hd : decode cc pc = .ok (.getfield idx, 3)) (kk : xf_V X np L (.ref (xw_a P 13) :: st) (σ, τ)) : xf_V X pc L (.ref (xw_a P 3) :: st) (σ, τ) := xf_get hX np hp xin_WR 3 rfl rfl 2 (by decide) hl rfl hd kk
theorem xg_WR_outcome (hX : xf_ok X l own cc nL fr lo (xw_W P) D tys) (np : Nat) (hp : pc + 3 = np) (hl : Cond.fieldLink own idx (xnT_WR 3).1 (xnT_WR 3).2.1 (xnT_WR 3).2.2.1 ∈ xf_GW) (hd : decode cc pc = .ok (.getfield idx, 3)) (kk : xf_V X np L (.int (σ.1 9) :: st) (σ, τ)) : xf_V X pc L (.ref (xw_a P 3) :: st) (σ, τ) := xf_get hX np hp xin_WR 3 rfl rfl 3 (by decide) hl rfl hd kk
theorem xp_WR_outcome (hX : xf_ok X l own cc nL fr lo (xw_W P) D tys) (np : Nat) (hp : pc + 3 = np) {v : Int32} (hl : Cond.fieldLink own idx (xnT_WR 3).1 (xnT_WR 3).2.1 (xnT_WR 3).2.2.1 ∈ xf_GW) (hd : decode cc pc = .ok (.putfield idx, 3)) (kk : xf_V X np L st (xf_I σ 9 v, τ)) : xf_V X pc L (.int v :: .ref (xw_a P 3) :: st) (σ, τ) := xf_put hX np hp xin_WR xnK_WR xnO_WR xnM_WR 3 rfl rfl 3 (by decide) hl rfl (by decide +kernel) (Nat.le_of_ble_eq_true rfl) (σ' := (xf_I σ 9 v, τ)) rfl hd kk
theorem xg_WR_hand (hX : xf_ok X l own cc nL fr lo (xw_W P) D tys) (np : Nat) (hp : pc + 3 = np) (hl : Cond.fieldLink own idx (xnT_WR 4).1 (xnT_WR 4).2.1 (xnT_WR 4).2.2.1 ∈ xf_GW) (hd : decode cc pc = .ok (.getfield idx, 3)) (kk : xf_V X np L (.int (σ.1 10) :: st) (σ, τ)) : xf_V X pc L (.ref (xw_a P 3) :: st) (σ, τ) := xf_get hX np hp xin_WR 3 rfl rfl 4 (by decide) hl rfl hd kk
theorem xp_WR_hand (hX : xf_ok X l own cc nL fr lo (xw_W P) D tys) (np : Nat) (hp : pc + 3 = np) {v : Int32} (hl : Cond.fieldLink own idx (xnT_WR 4).1 (xnT_WR 4).2.1 (xnT_WR 4).2.2.1 ∈ xf_GW) (hd : decode cc pc = .ok (.putfield idx, 3)) (kk : xf_V X np L st (xf_I σ 10 v, τ)) : xf_V X pc L (.int v :: .ref (xw_a P 3) :: st) (σ, τ) := xf_put hX np hp xin_WR xnK_WR xnO_WR xnM_WR 3 rfl rfl 4 (by decide) hl rfl (by decide +kernel) (Nat.le_of_ble_eq_true rfl) (σ' := (xf_I σ 10 v, τ)) rfl hd kk
theorem xg_WR_kind (hX : xf_ok X l own cc nL fr lo (xw_W P) D tys) (np : Nat) (hp : pc + 3 = np) (hl : Cond.fieldLink own idx (xnT_WR 5).1 (xnT_WR 5).2.1 (xnT_WR 5).2.2.1 ∈ xf_GW) (hd : decode cc pc = .ok (.getfield idx, 3)) (kk : xf_V X np L (.int (σ.1 11) :: st) (σ, τ)) : xf_V X pc L (.ref (xw_a P 3) :: st) (σ, τ) := xf_get hX np hp xin_WR 3 rfl rfl 5 (by decide) hl rfl hd kk
theorem xp_WR_kind (hX : xf_ok X l own cc nL fr lo (xw_W P) D tys) (np : Nat) (hp : pc + 3 = np) {v : Int32} (hl : Cond.fieldLink own idx (xnT_WR 5).1 (xnT_WR 5).2.1 (xnT_WR 5).2.2.1 ∈ xf_GW) (hd : decode cc pc = .ok (.putfield idx, 3)) (kk : xf_V X np L st (xf_I σ 11 v, τ)) : xf_V X pc L (.int v :: .ref (xw_a P 3) :: st) (σ, τ) := xf_put hX np hp xin_WR xnK_WR xnO_WR xnM_WR 3 rfl rfl 5 (by decide) hl rfl (by decide +kernel) (Nat.le_of_ble_eq_true rfl) (σ' := (xf_I σ 11 v, τ)) rfl hd kk
theorem xg_WR_key (hX : xf_ok X l own cc nL fr lo (xw_W P) D tys) (np : Nat) (hp : pc + 3 = np) (hl : Cond.fieldLink own idx (xnT_WR 6).1 (xnT_WR 6).2.1 (xnT_WR 6).2.2.1 ∈ xf_GW) (hd : decode cc pc = .ok (.getfield idx, 3)) (kk : xf_V X np L (.int (σ.1 12) :: st) (σ, τ)) : xf_V X pc L (.ref (xw_a P 3) :: st) (σ, τ) := xf_get hX np hp xin_WR 3 rfl rfl 6 (by decide) hl rfl hd kk
theorem xp_WR_key (hX : xf_ok X l own cc nL fr lo (xw_W P) D tys) (np : Nat) (hp : pc + 3 = np) {v : Int32} (hl : Cond.fieldLink own idx (xnT_WR 6).1 (xnT_WR 6).2.1 (xnT_WR 6).2.2.1 ∈ xf_GW) (hd : decode cc pc = .ok (.putfield idx, 3)) (kk : xf_V X np L st (xf_I σ 12 v, τ)) : xf_V X pc L (.int v :: .ref (xw_a P 3) :: st) (σ, τ) := xf_put hX np hp xin_WR xnK_WR xnO_WR xnM_WR 3 rfl rfl 6 (by decide) hl rfl (by decide +kernel) (Nat.le_of_ble_eq_true rfl) (σ' := (xf_I σ 12 v, τ)) rfl hd kk
theorem xg_WR_newValue (hX : xf_ok X l own cc nL fr lo (xw_W P) D tys) (np : Nat) (hp : pc + 3 = np) (hl : Cond.fieldLink own idx (xnT_WR 7).1 (xnT_WR 7).2.1 (xnT_WR 7).2.2.1 ∈ xf_GW) (hd : decode cc pc = .ok (.getfield idx, 3)) (kk : xf_V X np L (.int (σ.1 13) :: st) (σ, τ)) : xf_V X pc L (.ref (xw_a P 3) :: st) (σ, τ) := xf_get hX np hp xin_WR 3 rfl rfl 7 (by decide) hl rfl hd kk
theorem xp_WR_newValue (hX : xf_ok X l own cc nL fr lo (xw_W P) D tys) (np : Nat) (hp : pc + 3 = np) {v : Int32} (hl : Cond.fieldLink own idx (xnT_WR 7).1 (xnT_WR 7).2.1 (xnT_WR 7).2.2.1 ∈ xf_GW) (hd : decode cc pc = .ok (.putfield idx, 3)) (kk : xf_V X np L st (xf_I σ 13 v, τ)) : xf_V X pc L (.int v :: .ref (xw_a P 3) :: st) (σ, τ) := xf_put hX np hp xin_WR xnK_WR xnO_WR xnM_WR 3 rfl rfl 7 (by decide) hl rfl (by decide +kernel) (Nat.le_of_ble_eq_true rfl) (σ' := (xf_I σ 13 v, τ)) rfl hd kk
theorem xg_WR_life (hX : xf_ok X l own cc nL fr lo (xw_W P) D tys) (np : Nat) (hp : pc + 3 = np) (hl : Cond.fieldLink own idx (xnT_WR 8).1 (xnT_WR 8).2.1 (xnT_WR 8).2.2.1 ∈ xf_GW) (hd : decode cc pc = .ok (.getfield idx, 3)) (kk : xf_V X np L (.int (σ.1 14) :: st) (σ, τ)) : xf_V X pc L (.ref (xw_a P 3) :: st) (σ, τ) := xf_get hX np hp xin_WR 3 rfl rfl 8 (by decide) hl rfl hd kk
theorem xp_WR_life (hX : xf_ok X l own cc nL fr lo (xw_W P) D tys) (np : Nat) (hp : pc + 3 = np) {v : Int32} (hl : Cond.fieldLink own idx (xnT_WR 8).1 (xnT_WR 8).2.1 (xnT_WR 8).2.2.1 ∈ xf_GW) (hd : decode cc pc = .ok (.putfield idx, 3)) (kk : xf_V X np L st (xf_I σ 14 v, τ)) : xf_V X pc L (.int v :: .ref (xw_a P 3) :: st) (σ, τ) := xf_put hX np hp xin_WR xnK_WR xnO_WR xnM_WR 3 rfl rfl 8 (by decide) hl rfl (by decide +kernel) (Nat.le_of_ble_eq_true rfl) (σ' := (xf_I σ 14 v, τ)) rfl hd kk
theorem xg_WR_knownToken (hX : xf_ok X l own cc nL fr lo (xw_W P) D tys) (np : Nat) (hp : pc + 3 = np) (hl : Cond.fieldLink own idx (xnT_WR 9).1 (xnT_WR 9).2.1 (xnT_WR 9).2.2.1 ∈ xf_GW) (hd : decode cc pc = .ok (.getfield idx, 3)) (kk : xf_V X np L (.int (σ.1 15) :: st) (σ, τ)) : xf_V X pc L (.ref (xw_a P 3) :: st) (σ, τ) := xf_get hX np hp xin_WR 3 rfl rfl 9 (by decide) hl rfl hd kk
theorem xp_WR_knownToken (hX : xf_ok X l own cc nL fr lo (xw_W P) D tys) (np : Nat) (hp : pc + 3 = np) {v : Int32} (hl : Cond.fieldLink own idx (xnT_WR 9).1 (xnT_WR 9).2.1 (xnT_WR 9).2.2.1 ∈ xf_GW) (hd : decode cc pc = .ok (.putfield idx, 3)) (kk : xf_V X np L st (xf_I σ 15 v, τ)) : xf_V X pc L (.int v :: .ref (xw_a P 3) :: st) (σ, τ) := xf_put hX np hp xin_WR xnK_WR xnO_WR xnM_WR 3 rfl rfl 9 (by decide) hl rfl (by decide +kernel) (Nat.le_of_ble_eq_true rfl) (σ' := (xf_I σ 15 v, τ)) rfl hd kk
theorem xg_WR_next (hX : xf_ok X l own cc nL fr lo (xw_W P) D tys) (np : Nat) (hp : pc + 3 = np) (hl : Cond.fieldLink own idx (xnT_WR 10).1 (xnT_WR 10).2.1 (xnT_WR 10).2.2.1 ∈ xf_GW) (hd : decode cc pc = .ok (.getfield idx, 3)) (kk : xf_V X np L (.int (σ.1 16) :: st) (σ, τ)) : xf_V X pc L (.ref (xw_a P 3) :: st) (σ, τ) := xf_get hX np hp xin_WR 3 rfl rfl 10 (by decide) hl rfl hd kk
theorem xp_WR_next (hX : xf_ok X l own cc nL fr lo (xw_W P) D tys) (np : Nat) (hp : pc + 3 = np) {v : Int32} (hl : Cond.fieldLink own idx (xnT_WR 10).1 (xnT_WR 10).2.1 (xnT_WR 10).2.2.1 ∈ xf_GW) (hd : decode cc pc = .ok (.putfield idx, 3)) (kk : xf_V X np L st (xf_I σ 16 v, τ)) : xf_V X pc L (.int v :: .ref (xw_a P 3) :: st) (σ, τ) := xf_put hX np hp xin_WR xnK_WR xnO_WR xnM_WR 3 rfl rfl 10 (by decide) hl rfl (by decide +kernel) (Nat.le_of_ble_eq_true rfl) (σ' := (xf_I σ 16 v, τ)) rfl hd kk
theorem xg_WR_changed (hX : xf_ok X l own cc nL fr lo (xw_W P) D tys) (np : Nat) (hp : pc + 3 = np) (hl : Cond.fieldLink own idx (xnT_WR 11).1 (xnT_WR 11).2.1 (xnT_WR 11).2.2.1 ∈ xf_GW) (hd : decode cc pc = .ok (.getfield idx, 3)) (kk : xf_V X np L (.int (σ.1 17) :: st) (σ, τ)) : xf_V X pc L (.ref (xw_a P 3) :: st) (σ, τ) := xf_get hX np hp xin_WR 3 rfl rfl 11 (by decide) hl rfl hd kk
theorem xp_WR_changed (hX : xf_ok X l own cc nL fr lo (xw_W P) D tys) (np : Nat) (hp : pc + 3 = np) {v : Int32} (hl : Cond.fieldLink own idx (xnT_WR 11).1 (xnT_WR 11).2.1 (xnT_WR 11).2.2.1 ∈ xf_GW) (hd : decode cc pc = .ok (.putfield idx, 3)) (kk : xf_V X np L st (xf_I σ 17 v, τ)) : xf_V X pc L (.int v :: .ref (xw_a P 3) :: st) (σ, τ) := xf_put hX np hp xin_WR xnK_WR xnO_WR xnM_WR 3 rfl rfl 11 (by decide) hl rfl (by decide +kernel) (Nat.le_of_ble_eq_true rfl) (σ' := (xf_I σ 17 v, τ)) rfl hd kk
theorem xg_WR_moving (hX : xf_ok X l own cc nL fr lo (xw_W P) D tys) (np : Nat) (hp : pc + 3 = np) (hl : Cond.fieldLink own idx (xnT_WR 12).1 (xnT_WR 12).2.1 (xnT_WR 12).2.2.1 ∈ xf_GW) (hd : decode cc pc = .ok (.getfield idx, 3)) (kk : xf_V X np L (.int (σ.1 18) :: st) (σ, τ)) : xf_V X pc L (.ref (xw_a P 3) :: st) (σ, τ) := xf_get hX np hp xin_WR 3 rfl rfl 12 (by decide) hl rfl hd kk
theorem xp_WR_moving (hX : xf_ok X l own cc nL fr lo (xw_W P) D tys) (np : Nat) (hp : pc + 3 = np) {v : Int32} (hl : Cond.fieldLink own idx (xnT_WR 12).1 (xnT_WR 12).2.1 (xnT_WR 12).2.2.1 ∈ xf_GW) (hd : decode cc pc = .ok (.putfield idx, 3)) (kk : xf_V X np L st (xf_I σ 18 v, τ)) : xf_V X pc L (.int v :: .ref (xw_a P 3) :: st) (σ, τ) := xf_put hX np hp xin_WR xnK_WR xnO_WR xnM_WR 3 rfl rfl 12 (by decide) hl rfl (by decide +kernel) (Nat.le_of_ble_eq_true rfl) (σ' := (xf_I σ 18 v, τ)) rfl hd kk
theorem xg_PA_store (hX : xf_ok X l own cc nL fr lo (xw_W P) D tys) (np : Nat) (hp : pc + 3 = np) (hl : Cond.fieldLink own idx (xnT_PA 0).1 (xnT_PA 0).2.1 (xnT_PA 0).2.2.1 ∈ xf_GW) (hd : decode cc pc = .ok (.getfield idx, 3)) (kk : xf_V X np L (.ref (xw_a P 2) :: st) (σ, τ)) : xf_V X pc L (.ref (xw_a P 13) :: st) (σ, τ) := xf_get hX np hp xin_PA 13 rfl rfl 0 (by decide) hl rfl hd kk
theorem xg_PA_stops (hX : xf_ok X l own cc nL fr lo (xw_W P) D tys) (np : Nat) (hp : pc + 3 = np) (hl : Cond.fieldLink own idx (xnT_PA 1).1 (xnT_PA 1).2.1 (xnT_PA 1).2.2.1 ∈ xf_GW) (hd : decode cc pc = .ok (.getfield idx, 3)) (kk : xf_V X np L (.ref (xw_a P 14) :: st) (σ, τ)) : xf_V X pc L (.ref (xw_a P 13) :: st) (σ, τ) := xf_get hX np hp xin_PA 13 rfl rfl 1 (by decide) hl rfl hd kk
theorem xg_PA_length (hX : xf_ok X l own cc nL fr lo (xw_W P) D tys) (np : Nat) (hp : pc + 3 = np) (hl : Cond.fieldLink own idx (xnT_PA 2).1 (xnT_PA 2).2.1 (xnT_PA 2).2.2.1 ∈ xf_GW) (hd : decode cc pc = .ok (.getfield idx, 3)) (kk : xf_V X np L (.int (σ.1 19) :: st) (σ, τ)) : xf_V X pc L (.ref (xw_a P 13) :: st) (σ, τ) := xf_get hX np hp xin_PA 13 rfl rfl 2 (by decide) hl rfl hd kk
theorem xp_PA_length (hX : xf_ok X l own cc nL fr lo (xw_W P) D tys) (np : Nat) (hp : pc + 3 = np) {v : Int32} (hl : Cond.fieldLink own idx (xnT_PA 2).1 (xnT_PA 2).2.1 (xnT_PA 2).2.2.1 ∈ xf_GW) (hd : decode cc pc = .ok (.putfield idx, 3)) (kk : xf_V X np L st (xf_I σ 19 v, τ)) : xf_V X pc L (.int v :: .ref (xw_a P 13) :: st) (σ, τ) := xf_put hX np hp xin_PA xnK_PA xnO_PA xnM_PA 13 rfl rfl 2 (by decide) hl rfl (by decide +kernel) (Nat.le_of_ble_eq_true rfl) (σ' := (xf_I σ 19 v, τ)) rfl hd kk
theorem xg_PA_queue (hX : xf_ok X l own cc nL fr lo (xw_W P) D tys) (np : Nat) (hp : pc + 3 = np) (hl : Cond.fieldLink own idx (xnT_PA 3).1 (xnT_PA 3).2.1 (xnT_PA 3).2.2.1 ∈ xf_GW) (hd : decode cc pc = .ok (.getfield idx, 3)) (kk : xf_V X np L (.ref (xw_a P 15) :: st) (σ, τ)) : xf_V X pc L (.ref (xw_a P 13) :: st) (σ, τ) := xf_get hX np hp xin_PA 13 rfl rfl 3 (by decide) hl rfl hd kk
theorem xg_PA_before (hX : xf_ok X l own cc nL fr lo (xw_W P) D tys) (np : Nat) (hp : pc + 3 = np) (hl : Cond.fieldLink own idx (xnT_PA 4).1 (xnT_PA 4).2.1 (xnT_PA 4).2.2.1 ∈ xf_GW) (hd : decode cc pc = .ok (.getfield idx, 3)) (kk : xf_V X np L (.ref (xw_a P 16) :: st) (σ, τ)) : xf_V X pc L (.ref (xw_a P 13) :: st) (σ, τ) := xf_get hX np hp xin_PA 13 rfl rfl 4 (by decide) hl rfl hd kk
theorem xg_PA_depths (hX : xf_ok X l own cc nL fr lo (xw_W P) D tys) (np : Nat) (hp : pc + 3 = np) (hl : Cond.fieldLink own idx (xnT_PA 5).1 (xnT_PA 5).2.1 (xnT_PA 5).2.2.1 ∈ xf_GW) (hd : decode cc pc = .ok (.getfield idx, 3)) (kk : xf_V X np L (.ref (xw_a P 17) :: st) (σ, τ)) : xf_V X pc L (.ref (xw_a P 13) :: st) (σ, τ) := xf_get hX np hp xin_PA 13 rfl rfl 5 (by decide) hl rfl hd kk
theorem xg_PA_queued (hX : xf_ok X l own cc nL fr lo (xw_W P) D tys) (np : Nat) (hp : pc + 3 = np) (hl : Cond.fieldLink own idx (xnT_PA 6).1 (xnT_PA 6).2.1 (xnT_PA 6).2.2.1 ∈ xf_GW) (hd : decode cc pc = .ok (.getfield idx, 3)) (kk : xf_V X np L (.int (σ.1 20) :: st) (σ, τ)) : xf_V X pc L (.ref (xw_a P 13) :: st) (σ, τ) := xf_get hX np hp xin_PA 13 rfl rfl 6 (by decide) hl rfl hd kk
theorem xp_PA_queued (hX : xf_ok X l own cc nL fr lo (xw_W P) D tys) (np : Nat) (hp : pc + 3 = np) {v : Int32} (hl : Cond.fieldLink own idx (xnT_PA 6).1 (xnT_PA 6).2.1 (xnT_PA 6).2.2.1 ∈ xf_GW) (hd : decode cc pc = .ok (.putfield idx, 3)) (kk : xf_V X np L st (xf_I σ 20 v, τ)) : xf_V X pc L (.int v :: .ref (xw_a P 13) :: st) (σ, τ) := xf_put hX np hp xin_PA xnK_PA xnO_PA xnM_PA 13 rfl rfl 6 (by decide) hl rfl (by decide +kernel) (Nat.le_of_ble_eq_true rfl) (σ' := (xf_I σ 20 v, τ)) rfl hd kk
theorem xg_RD_store (hX : xf_ok X l own cc nL fr lo (xw_W P) D tys) (np : Nat) (hp : pc + 3 = np) {r : Nat} (hr : r < 3) (hl : Cond.fieldLink own idx (xnT_RD 0).1 (xnT_RD 0).2.1 (xnT_RD 0).2.2.1 ∈ xf_GW) (hd : decode cc pc = .ok (.getfield idx, 3)) (kk : xf_V X np L (.ref (xw_a P 2) :: st) (σ, τ)) : xf_V X pc L (.ref (xw_a P (18 + r)) :: st) (σ, τ) := xf_get hX np hp xin_RD (18 + r) (xw_at_rd hr) rfl 0 (by decide) hl rfl hd kk
theorem xg_RD_writer (hX : xf_ok X l own cc nL fr lo (xw_W P) D tys) (np : Nat) (hp : pc + 3 = np) {r : Nat} (hr : r < 3) (hl : Cond.fieldLink own idx (xnT_RD 1).1 (xnT_RD 1).2.1 (xnT_RD 1).2.2.1 ∈ xf_GW) (hd : decode cc pc = .ok (.getfield idx, 3)) (kk : xf_V X np L (.ref (xw_a P 3) :: st) (σ, τ)) : xf_V X pc L (.ref (xw_a P (18 + r)) :: st) (σ, τ) := xf_get hX np hp xin_RD (18 + r) (xw_at_rd hr) rfl 1 (by decide) hl rfl hd kk
theorem xg_RD_tally (hX : xf_ok X l own cc nL fr lo (xw_W P) D tys) (np : Nat) (hp : pc + 3 = np) {r : Nat} (hr : r < 3) (hl : Cond.fieldLink own idx (xnT_RD 2).1 (xnT_RD 2).2.1 (xnT_RD 2).2.2.1 ∈ xf_GW) (hd : decode cc pc = .ok (.getfield idx, 3)) (kk : xf_V X np L (.ref (xw_a P 1) :: st) (σ, τ)) : xf_V X pc L (.ref (xw_a P (18 + r)) :: st) (σ, τ) := xf_get hX np hp xin_RD (18 + r) (xw_at_rd hr) rfl 2 (by decide) hl rfl hd kk
theorem xg_RD_state (hX : xf_ok X l own cc nL fr lo (xw_W P) D tys) (np : Nat) (hp : pc + 3 = np) {r : Nat} (hr : r < 3) (hl : Cond.fieldLink own idx (xnT_RD 3).1 (xnT_RD 3).2.1 (xnT_RD 3).2.2.1 ∈ xf_GW) (hd : decode cc pc = .ok (.getfield idx, 3)) (kk : xf_V X np L (.int (σ.1 (24 + 8 * r)) :: st) (σ, τ)) : xf_V X pc L (.ref (xw_a P (18 + r)) :: st) (σ, τ) := xf_get hX np hp xin_RD (18 + r) (xw_at_rd hr) rfl 3 (by decide) hl rfl hd kk
theorem xp_RD_state (hX : xf_ok X l own cc nL fr lo (xw_W P) D tys) (np : Nat) (hp : pc + 3 = np) {r : Nat} (hr : r < 3) {v : Int32} (hl : Cond.fieldLink own idx (xnT_RD 3).1 (xnT_RD 3).2.1 (xnT_RD 3).2.2.1 ∈ xf_GW) (hd : decode cc pc = .ok (.putfield idx, 3)) (kk : xf_V X np L st (xf_I σ (24 + 8 * r) v, τ)) : xf_V X pc L (.int v :: .ref (xw_a P (18 + r)) :: st) (σ, τ) := by
  refine xf_put hX np hp xin_RD xnK_RD xnO_RD xnM_RD (18 + r) (xw_at_rd hr) rfl 3 (by decide) hl rfl (by decide +kernel) (Nat.le_of_ble_eq_true rfl) (σ' := (xf_I σ (24 + 8 * r) v, τ)) ?_ hd kk
  have h9 : r = 0 ∨ r = 1 ∨ r = 2 := by omega
  rcases h9 with rfl | rfl | rfl <;> rfl
theorem xg_RD_copiedValue (hX : xf_ok X l own cc nL fr lo (xw_W P) D tys) (np : Nat) (hp : pc + 3 = np) {r : Nat} (hr : r < 3) (hl : Cond.fieldLink own idx (xnT_RD 4).1 (xnT_RD 4).2.1 (xnT_RD 4).2.2.1 ∈ xf_GW) (hd : decode cc pc = .ok (.getfield idx, 3)) (kk : xf_V X np L (.int (σ.1 (24 + 8 * r + 1)) :: st) (σ, τ)) : xf_V X pc L (.ref (xw_a P (18 + r)) :: st) (σ, τ) := xf_get hX np hp xin_RD (18 + r) (xw_at_rd hr) rfl 4 (by decide) hl rfl hd kk
theorem xp_RD_copiedValue (hX : xf_ok X l own cc nL fr lo (xw_W P) D tys) (np : Nat) (hp : pc + 3 = np) {r : Nat} (hr : r < 3) {v : Int32} (hl : Cond.fieldLink own idx (xnT_RD 4).1 (xnT_RD 4).2.1 (xnT_RD 4).2.2.1 ∈ xf_GW) (hd : decode cc pc = .ok (.putfield idx, 3)) (kk : xf_V X np L st (xf_I σ (24 + 8 * r + 1) v, τ)) : xf_V X pc L (.int v :: .ref (xw_a P (18 + r)) :: st) (σ, τ) := by
  refine xf_put hX np hp xin_RD xnK_RD xnO_RD xnM_RD (18 + r) (xw_at_rd hr) rfl 4 (by decide) hl rfl (by decide +kernel) (Nat.le_of_ble_eq_true rfl) (σ' := (xf_I σ (24 + 8 * r + 1) v, τ)) ?_ hd kk
  have h9 : r = 0 ∨ r = 1 ∨ r = 2 := by omega
  rcases h9 with rfl | rfl | rfl <;> rfl
theorem xg_RD_copiedToken (hX : xf_ok X l own cc nL fr lo (xw_W P) D tys) (np : Nat) (hp : pc + 3 = np) {r : Nat} (hr : r < 3) (hl : Cond.fieldLink own idx (xnT_RD 5).1 (xnT_RD 5).2.1 (xnT_RD 5).2.2.1 ∈ xf_GW) (hd : decode cc pc = .ok (.getfield idx, 3)) (kk : xf_V X np L (.int (σ.1 (24 + 8 * r + 2)) :: st) (σ, τ)) : xf_V X pc L (.ref (xw_a P (18 + r)) :: st) (σ, τ) := xf_get hX np hp xin_RD (18 + r) (xw_at_rd hr) rfl 5 (by decide) hl rfl hd kk
theorem xp_RD_copiedToken (hX : xf_ok X l own cc nL fr lo (xw_W P) D tys) (np : Nat) (hp : pc + 3 = np) {r : Nat} (hr : r < 3) {v : Int32} (hl : Cond.fieldLink own idx (xnT_RD 5).1 (xnT_RD 5).2.1 (xnT_RD 5).2.2.1 ∈ xf_GW) (hd : decode cc pc = .ok (.putfield idx, 3)) (kk : xf_V X np L st (xf_I σ (24 + 8 * r + 2) v, τ)) : xf_V X pc L (.int v :: .ref (xw_a P (18 + r)) :: st) (σ, τ) := by
  refine xf_put hX np hp xin_RD xnK_RD xnO_RD xnM_RD (18 + r) (xw_at_rd hr) rfl 5 (by decide) hl rfl (by decide +kernel) (Nat.le_of_ble_eq_true rfl) (σ' := (xf_I σ (24 + 8 * r + 2) v, τ)) ?_ hd kk
  have h9 : r = 0 ∨ r = 1 ∨ r = 2 := by omega
  rcases h9 with rfl | rfl | rfl <;> rfl
theorem xg_RD_key (hX : xf_ok X l own cc nL fr lo (xw_W P) D tys) (np : Nat) (hp : pc + 3 = np) {r : Nat} (hr : r < 3) (hl : Cond.fieldLink own idx (xnT_RD 6).1 (xnT_RD 6).2.1 (xnT_RD 6).2.2.1 ∈ xf_GW) (hd : decode cc pc = .ok (.getfield idx, 3)) (kk : xf_V X np L (.int (σ.1 (24 + 8 * r + 3)) :: st) (σ, τ)) : xf_V X pc L (.ref (xw_a P (18 + r)) :: st) (σ, τ) := xf_get hX np hp xin_RD (18 + r) (xw_at_rd hr) rfl 6 (by decide) hl rfl hd kk
theorem xp_RD_key (hX : xf_ok X l own cc nL fr lo (xw_W P) D tys) (np : Nat) (hp : pc + 3 = np) {r : Nat} (hr : r < 3) {v : Int32} (hl : Cond.fieldLink own idx (xnT_RD 6).1 (xnT_RD 6).2.1 (xnT_RD 6).2.2.1 ∈ xf_GW) (hd : decode cc pc = .ok (.putfield idx, 3)) (kk : xf_V X np L st (xf_I σ (24 + 8 * r + 3) v, τ)) : xf_V X pc L (.int v :: .ref (xw_a P (18 + r)) :: st) (σ, τ) := by
  refine xf_put hX np hp xin_RD xnK_RD xnO_RD xnM_RD (18 + r) (xw_at_rd hr) rfl 6 (by decide) hl rfl (by decide +kernel) (Nat.le_of_ble_eq_true rfl) (σ' := (xf_I σ (24 + 8 * r + 3) v, τ)) ?_ hd kk
  have h9 : r = 0 ∨ r = 1 ∨ r = 2 := by omega
  rcases h9 with rfl | rfl | rfl <;> rfl
theorem xg_RD_retries (hX : xf_ok X l own cc nL fr lo (xw_W P) D tys) (np : Nat) (hp : pc + 3 = np) {r : Nat} (hr : r < 3) (hl : Cond.fieldLink own idx (xnT_RD 7).1 (xnT_RD 7).2.1 (xnT_RD 7).2.2.1 ∈ xf_GW) (hd : decode cc pc = .ok (.getfield idx, 3)) (kk : xf_V X np L (.int (σ.1 (24 + 8 * r + 4)) :: st) (σ, τ)) : xf_V X pc L (.ref (xw_a P (18 + r)) :: st) (σ, τ) := xf_get hX np hp xin_RD (18 + r) (xw_at_rd hr) rfl 7 (by decide) hl rfl hd kk
theorem xp_RD_retries (hX : xf_ok X l own cc nL fr lo (xw_W P) D tys) (np : Nat) (hp : pc + 3 = np) {r : Nat} (hr : r < 3) {v : Int32} (hl : Cond.fieldLink own idx (xnT_RD 7).1 (xnT_RD 7).2.1 (xnT_RD 7).2.2.1 ∈ xf_GW) (hd : decode cc pc = .ok (.putfield idx, 3)) (kk : xf_V X np L st (xf_I σ (24 + 8 * r + 4) v, τ)) : xf_V X pc L (.int v :: .ref (xw_a P (18 + r)) :: st) (σ, τ) := by
  refine xf_put hX np hp xin_RD xnK_RD xnO_RD xnM_RD (18 + r) (xw_at_rd hr) rfl 7 (by decide) hl rfl (by decide +kernel) (Nat.le_of_ble_eq_true rfl) (σ' := (xf_I σ (24 + 8 * r + 4) v, τ)) ?_ hd kk
  have h9 : r = 0 ∨ r = 1 ∨ r = 2 := by omega
  rcases h9 with rfl | rfl | rfl <;> rfl
theorem xg_RD_keptVersion (hX : xf_ok X l own cc nL fr lo (xw_W P) D tys) (np : Nat) (hp : pc + 3 = np) {r : Nat} (hr : r < 3) (hl : Cond.fieldLink own idx (xnT_RD 8).1 (xnT_RD 8).2.1 (xnT_RD 8).2.2.1 ∈ xf_GW) (hd : decode cc pc = .ok (.getfield idx, 3)) (kk : xf_V X np L (.int (σ.1 (24 + 8 * r + 5)) :: st) (σ, τ)) : xf_V X pc L (.ref (xw_a P (18 + r)) :: st) (σ, τ) := xf_get hX np hp xin_RD (18 + r) (xw_at_rd hr) rfl 8 (by decide) hl rfl hd kk
theorem xp_RD_keptVersion (hX : xf_ok X l own cc nL fr lo (xw_W P) D tys) (np : Nat) (hp : pc + 3 = np) {r : Nat} (hr : r < 3) {v : Int32} (hl : Cond.fieldLink own idx (xnT_RD 8).1 (xnT_RD 8).2.1 (xnT_RD 8).2.2.1 ∈ xf_GW) (hd : decode cc pc = .ok (.putfield idx, 3)) (kk : xf_V X np L st (xf_I σ (24 + 8 * r + 5) v, τ)) : xf_V X pc L (.int v :: .ref (xw_a P (18 + r)) :: st) (σ, τ) := by
  refine xf_put hX np hp xin_RD xnK_RD xnO_RD xnM_RD (18 + r) (xw_at_rd hr) rfl 8 (by decide) hl rfl (by decide +kernel) (Nat.le_of_ble_eq_true rfl) (σ' := (xf_I σ (24 + 8 * r + 5) v, τ)) ?_ hd kk
  have h9 : r = 0 ∨ r = 1 ∨ r = 2 := by omega
  rcases h9 with rfl | rfl | rfl <;> rfl
theorem xg_RD_keptItem (hX : xf_ok X l own cc nL fr lo (xw_W P) D tys) (np : Nat) (hp : pc + 3 = np) {r : Nat} (hr : r < 3) (hl : Cond.fieldLink own idx (xnT_RD 9).1 (xnT_RD 9).2.1 (xnT_RD 9).2.2.1 ∈ xf_GW) (hd : decode cc pc = .ok (.getfield idx, 3)) (kk : xf_V X np L (.int (σ.1 (24 + 8 * r + 6)) :: st) (σ, τ)) : xf_V X pc L (.ref (xw_a P (18 + r)) :: st) (σ, τ) := xf_get hX np hp xin_RD (18 + r) (xw_at_rd hr) rfl 9 (by decide) hl rfl hd kk
theorem xp_RD_keptItem (hX : xf_ok X l own cc nL fr lo (xw_W P) D tys) (np : Nat) (hp : pc + 3 = np) {r : Nat} (hr : r < 3) {v : Int32} (hl : Cond.fieldLink own idx (xnT_RD 9).1 (xnT_RD 9).2.1 (xnT_RD 9).2.2.1 ∈ xf_GW) (hd : decode cc pc = .ok (.putfield idx, 3)) (kk : xf_V X np L st (xf_I σ (24 + 8 * r + 6) v, τ)) : xf_V X pc L (.int v :: .ref (xw_a P (18 + r)) :: st) (σ, τ) := by
  refine xf_put hX np hp xin_RD xnK_RD xnO_RD xnM_RD (18 + r) (xw_at_rd hr) rfl 9 (by decide) hl rfl (by decide +kernel) (Nat.le_of_ble_eq_true rfl) (σ' := (xf_I σ (24 + 8 * r + 6) v, τ)) ?_ hd kk
  have h9 : r = 0 ∨ r = 1 ∨ r = 2 := by omega
  rcases h9 with rfl | rfl | rfl <;> rfl
theorem xg_RD_copiedExpiry (hX : xf_ok X l own cc nL fr lo (xw_W P) D tys) (np : Nat) (hp : pc + 3 = np) {r : Nat} (hr : r < 3) (hl : Cond.fieldLink own idx (xnT_RD 10).1 (xnT_RD 10).2.1 (xnT_RD 10).2.2.1 ∈ xf_GW) (hd : decode cc pc = .ok (.getfield idx, 3)) (kk : xf_V X np L (.int (σ.1 (24 + 8 * r + 7)) :: st) (σ, τ)) : xf_V X pc L (.ref (xw_a P (18 + r)) :: st) (σ, τ) := xf_get hX np hp xin_RD (18 + r) (xw_at_rd hr) rfl 10 (by decide) hl rfl hd kk
theorem xp_RD_copiedExpiry (hX : xf_ok X l own cc nL fr lo (xw_W P) D tys) (np : Nat) (hp : pc + 3 = np) {r : Nat} (hr : r < 3) {v : Int32} (hl : Cond.fieldLink own idx (xnT_RD 10).1 (xnT_RD 10).2.1 (xnT_RD 10).2.2.1 ∈ xf_GW) (hd : decode cc pc = .ok (.putfield idx, 3)) (kk : xf_V X np L st (xf_I σ (24 + 8 * r + 7) v, τ)) : xf_V X pc L (.int v :: .ref (xw_a P (18 + r)) :: st) (σ, τ) := by
  refine xf_put hX np hp xin_RD xnK_RD xnO_RD xnM_RD (18 + r) (xw_at_rd hr) rfl 10 (by decide) hl rfl (by decide +kernel) (Nat.le_of_ble_eq_true rfl) (σ' := (xf_I σ (24 + 8 * r + 7) v, τ)) ?_ hd kk
  have h9 : r = 0 ∨ r = 1 ∨ r = 2 := by omega
  rcases h9 with rfl | rfl | rfl <;> rfl
theorem xg_MO_items (hX : xf_ok X l own cc nL fr lo (xw_W P) D tys) (np : Nat) (hp : pc + 3 = np) (hl : Cond.fieldLink own idx (xnT_MO 0).1 (xnT_MO 0).2.1 (xnT_MO 0).2.2.1 ∈ xf_GW) (hd : decode cc pc = .ok (.getfield idx, 3)) (kk : xf_V X np L (.int (nI (xw_n P)) :: st) (σ, τ)) : xf_V X pc L (.ref (xw_a P 100) :: st) (σ, τ) := xf_get hX np hp xin_MO 21 rfl rfl 0 (by decide) hl rfl hd kk
theorem xg_MO_ways (hX : xf_ok X l own cc nL fr lo (xw_W P) D tys) (np : Nat) (hp : pc + 3 = np) (hl : Cond.fieldLink own idx (xnT_MO 1).1 (xnT_MO 1).2.1 (xnT_MO 1).2.2.1 ∈ xf_GW) (hd : decode cc pc = .ok (.getfield idx, 3)) (kk : xf_V X np L (.int (nI (xw_w P)) :: st) (σ, τ)) : xf_V X pc L (.ref (xw_a P 100) :: st) (σ, τ) := xf_get hX np hp xin_MO 21 rfl rfl 1 (by decide) hl rfl hd kk
theorem xg_MO_time (hX : xf_ok X l own cc nL fr lo (xw_W P) D tys) (np : Nat) (hp : pc + 3 = np) (hl : Cond.fieldLink own idx (xnT_MO 2).1 (xnT_MO 2).2.1 (xnT_MO 2).2.2.1 ∈ xf_GW) (hd : decode cc pc = .ok (.getfield idx, 3)) (kk : xf_V X np L (.int (τ.1 0) :: st) (σ, τ)) : xf_V X pc L (.ref (xw_a P 100) :: st) (σ, τ) := xf_get hX np hp xin_MO 21 rfl rfl 2 (by decide) hl rfl hd kk
theorem xp_MO_time (hX : xf_ok X l own cc nL fr lo (xw_W P) D tys) (np : Nat) (hp : pc + 3 = np) {v : Int32} (hl : Cond.fieldLink own idx (xnT_MO 2).1 (xnT_MO 2).2.1 (xnT_MO 2).2.2.1 ∈ xf_GW) (hd : decode cc pc = .ok (.putfield idx, 3)) (kk : xf_V X np L st (σ, xf_I τ 0 v)) : xf_V X pc L (.int v :: .ref (xw_a P 100) :: st) (σ, τ) := xf_put hX np hp xin_MO xnK_MO xnO_MO xnM_MO 21 rfl rfl 2 (by decide) hl rfl (by decide +kernel) (Nat.le_of_ble_eq_true rfl) (σ' := (σ, xf_I τ 0 v)) rfl hd kk
theorem xg_MO_hand (hX : xf_ok X l own cc nL fr lo (xw_W P) D tys) (np : Nat) (hp : pc + 3 = np) (hl : Cond.fieldLink own idx (xnT_MO 3).1 (xnT_MO 3).2.1 (xnT_MO 3).2.2.1 ∈ xf_GW) (hd : decode cc pc = .ok (.getfield idx, 3)) (kk : xf_V X np L (.int (τ.1 1) :: st) (σ, τ)) : xf_V X pc L (.ref (xw_a P 100) :: st) (σ, τ) := xf_get hX np hp xin_MO 21 rfl rfl 3 (by decide) hl rfl hd kk
theorem xp_MO_hand (hX : xf_ok X l own cc nL fr lo (xw_W P) D tys) (np : Nat) (hp : pc + 3 = np) {v : Int32} (hl : Cond.fieldLink own idx (xnT_MO 3).1 (xnT_MO 3).2.1 (xnT_MO 3).2.2.1 ∈ xf_GW) (hd : decode cc pc = .ok (.putfield idx, 3)) (kk : xf_V X np L st (σ, xf_I τ 1 v)) : xf_V X pc L (.int v :: .ref (xw_a P 100) :: st) (σ, τ) := xf_put hX np hp xin_MO xnK_MO xnO_MO xnM_MO 21 rfl rfl 3 (by decide) hl rfl (by decide +kernel) (Nat.le_of_ble_eq_true rfl) (σ' := (σ, xf_I τ 1 v)) rfl hd kk
theorem xg_MO_tokens (hX : xf_ok X l own cc nL fr lo (xw_W P) D tys) (np : Nat) (hp : pc + 3 = np) (hl : Cond.fieldLink own idx (xnT_MO 4).1 (xnT_MO 4).2.1 (xnT_MO 4).2.2.1 ∈ xf_GW) (hd : decode cc pc = .ok (.getfield idx, 3)) (kk : xf_V X np L (.int (τ.1 2) :: st) (σ, τ)) : xf_V X pc L (.ref (xw_a P 100) :: st) (σ, τ) := xf_get hX np hp xin_MO 21 rfl rfl 4 (by decide) hl rfl hd kk
theorem xp_MO_tokens (hX : xf_ok X l own cc nL fr lo (xw_W P) D tys) (np : Nat) (hp : pc + 3 = np) {v : Int32} (hl : Cond.fieldLink own idx (xnT_MO 4).1 (xnT_MO 4).2.1 (xnT_MO 4).2.2.1 ∈ xf_GW) (hd : decode cc pc = .ok (.putfield idx, 3)) (kk : xf_V X np L st (σ, xf_I τ 2 v)) : xf_V X pc L (.int v :: .ref (xw_a P 100) :: st) (σ, τ) := xf_put hX np hp xin_MO xnK_MO xnO_MO xnM_MO 21 rfl rfl 4 (by decide) hl rfl (by decide +kernel) (Nat.le_of_ble_eq_true rfl) (σ' := (σ, xf_I τ 2 v)) rfl hd kk
theorem xg_MO_held (hX : xf_ok X l own cc nL fr lo (xw_W P) D tys) (np : Nat) (hp : pc + 3 = np) (hl : Cond.fieldLink own idx (xnT_MO 5).1 (xnT_MO 5).2.1 (xnT_MO 5).2.2.1 ∈ xf_GW) (hd : decode cc pc = .ok (.getfield idx, 3)) (kk : xf_V X np L (.ref (xw_a P 101) :: st) (σ, τ)) : xf_V X pc L (.ref (xw_a P 100) :: st) (σ, τ) := xf_get hX np hp xin_MO 21 rfl rfl 5 (by decide) hl rfl hd kk
theorem xg_MO_taken (hX : xf_ok X l own cc nL fr lo (xw_W P) D tys) (np : Nat) (hp : pc + 3 = np) (hl : Cond.fieldLink own idx (xnT_MO 6).1 (xnT_MO 6).2.1 (xnT_MO 6).2.2.1 ∈ xf_GW) (hd : decode cc pc = .ok (.getfield idx, 3)) (kk : xf_V X np L (.ref (xw_a P 102) :: st) (σ, τ)) : xf_V X pc L (.ref (xw_a P 100) :: st) (σ, τ) := xf_get hX np hp xin_MO 21 rfl rfl 6 (by decide) hl rfl hd kk
theorem xg_MO_keys (hX : xf_ok X l own cc nL fr lo (xw_W P) D tys) (np : Nat) (hp : pc + 3 = np) (hl : Cond.fieldLink own idx (xnT_MO 7).1 (xnT_MO 7).2.1 (xnT_MO 7).2.2.1 ∈ xf_GW) (hd : decode cc pc = .ok (.getfield idx, 3)) (kk : xf_V X np L (.ref (xw_a P 103) :: st) (σ, τ)) : xf_V X pc L (.ref (xw_a P 100) :: st) (σ, τ) := xf_get hX np hp xin_MO 21 rfl rfl 7 (by decide) hl rfl hd kk
theorem xg_MO_values (hX : xf_ok X l own cc nL fr lo (xw_W P) D tys) (np : Nat) (hp : pc + 3 = np) (hl : Cond.fieldLink own idx (xnT_MO 8).1 (xnT_MO 8).2.1 (xnT_MO 8).2.2.1 ∈ xf_GW) (hd : decode cc pc = .ok (.getfield idx, 3)) (kk : xf_V X np L (.ref (xw_a P 104) :: st) (σ, τ)) : xf_V X pc L (.ref (xw_a P 100) :: st) (σ, τ) := xf_get hX np hp xin_MO 21 rfl rfl 8 (by decide) hl rfl hd kk
theorem xg_MO_marks (hX : xf_ok X l own cc nL fr lo (xw_W P) D tys) (np : Nat) (hp : pc + 3 = np) (hl : Cond.fieldLink own idx (xnT_MO 9).1 (xnT_MO 9).2.1 (xnT_MO 9).2.2.1 ∈ xf_GW) (hd : decode cc pc = .ok (.getfield idx, 3)) (kk : xf_V X np L (.ref (xw_a P 105) :: st) (σ, τ)) : xf_V X pc L (.ref (xw_a P 100) :: st) (σ, τ) := xf_get hX np hp xin_MO 21 rfl rfl 9 (by decide) hl rfl hd kk
theorem xg_MO_ends (hX : xf_ok X l own cc nL fr lo (xw_W P) D tys) (np : Nat) (hp : pc + 3 = np) (hl : Cond.fieldLink own idx (xnT_MO 10).1 (xnT_MO 10).2.1 (xnT_MO 10).2.2.1 ∈ xf_GW) (hd : decode cc pc = .ok (.getfield idx, 3)) (kk : xf_V X np L (.ref (xw_a P 106) :: st) (σ, τ)) : xf_V X pc L (.ref (xw_a P 100) :: st) (σ, τ) := xf_get hX np hp xin_MO 21 rfl rfl 10 (by decide) hl rfl hd kk
theorem xg_MO_bits (hX : xf_ok X l own cc nL fr lo (xw_W P) D tys) (np : Nat) (hp : pc + 3 = np) (hl : Cond.fieldLink own idx (xnT_MO 11).1 (xnT_MO 11).2.1 (xnT_MO 11).2.2.1 ∈ xf_GW) (hd : decode cc pc = .ok (.getfield idx, 3)) (kk : xf_V X np L (.ref (xw_a P 107) :: st) (σ, τ)) : xf_V X pc L (.ref (xw_a P 100) :: st) (σ, τ) := xf_get hX np hp xin_MO 21 rfl rfl 11 (by decide) hl rfl hd kk
theorem xg_MO_versions (hX : xf_ok X l own cc nL fr lo (xw_W P) D tys) (np : Nat) (hp : pc + 3 = np) (hl : Cond.fieldLink own idx (xnT_MO 12).1 (xnT_MO 12).2.1 (xnT_MO 12).2.2.1 ∈ xf_GW) (hd : decode cc pc = .ok (.getfield idx, 3)) (kk : xf_V X np L (.ref (xw_a P 108) :: st) (σ, τ)) : xf_V X pc L (.ref (xw_a P 100) :: st) (σ, τ) := xf_get hX np hp xin_MO 21 rfl rfl 12 (by decide) hl rfl hd kk
theorem xg_MO_next (hX : xf_ok X l own cc nL fr lo (xw_W P) D tys) (np : Nat) (hp : pc + 3 = np) (hl : Cond.fieldLink own idx (xnT_MO 13).1 (xnT_MO 13).2.1 (xnT_MO 13).2.2.1 ∈ xf_GW) (hd : decode cc pc = .ok (.getfield idx, 3)) (kk : xf_V X np L (.int (τ.1 3) :: st) (σ, τ)) : xf_V X pc L (.ref (xw_a P 100) :: st) (σ, τ) := xf_get hX np hp xin_MO 21 rfl rfl 13 (by decide) hl rfl hd kk
theorem xp_MO_next (hX : xf_ok X l own cc nL fr lo (xw_W P) D tys) (np : Nat) (hp : pc + 3 = np) {v : Int32} (hl : Cond.fieldLink own idx (xnT_MO 13).1 (xnT_MO 13).2.1 (xnT_MO 13).2.2.1 ∈ xf_GW) (hd : decode cc pc = .ok (.putfield idx, 3)) (kk : xf_V X np L st (σ, xf_I τ 3 v)) : xf_V X pc L (.int v :: .ref (xw_a P 100) :: st) (σ, τ) := xf_put hX np hp xin_MO xnK_MO xnO_MO xnM_MO 21 rfl rfl 13 (by decide) hl rfl (by decide +kernel) (Nat.le_of_ble_eq_true rfl) (σ' := (σ, xf_I τ 3 v)) rfl hd kk
theorem xg_MO_result (hX : xf_ok X l own cc nL fr lo (xw_W P) D tys) (np : Nat) (hp : pc + 3 = np) (hl : Cond.fieldLink own idx (xnT_MO 14).1 (xnT_MO 14).2.1 (xnT_MO 14).2.2.1 ∈ xf_GW) (hd : decode cc pc = .ok (.getfield idx, 3)) (kk : xf_V X np L (.int (τ.1 4) :: st) (σ, τ)) : xf_V X pc L (.ref (xw_a P 100) :: st) (σ, τ) := xf_get hX np hp xin_MO 21 rfl rfl 14 (by decide) hl rfl hd kk
theorem xp_MO_result (hX : xf_ok X l own cc nL fr lo (xw_W P) D tys) (np : Nat) (hp : pc + 3 = np) {v : Int32} (hl : Cond.fieldLink own idx (xnT_MO 14).1 (xnT_MO 14).2.1 (xnT_MO 14).2.2.1 ∈ xf_GW) (hd : decode cc pc = .ok (.putfield idx, 3)) (kk : xf_V X np L st (σ, xf_I τ 4 v)) : xf_V X pc L (.int v :: .ref (xw_a P 100) :: st) (σ, τ) := xf_put hX np hp xin_MO xnK_MO xnO_MO xnM_MO 21 rfl rfl 14 (by decide) hl rfl (by decide +kernel) (Nat.le_of_ble_eq_true rfl) (σ' := (σ, xf_I τ 4 v)) rfl hd kk
theorem xg_MO_kind (hX : xf_ok X l own cc nL fr lo (xw_W P) D tys) (np : Nat) (hp : pc + 3 = np) (hl : Cond.fieldLink own idx (xnT_MO 15).1 (xnT_MO 15).2.1 (xnT_MO 15).2.2.1 ∈ xf_GW) (hd : decode cc pc = .ok (.getfield idx, 3)) (kk : xf_V X np L (.int (τ.1 5) :: st) (σ, τ)) : xf_V X pc L (.ref (xw_a P 100) :: st) (σ, τ) := xf_get hX np hp xin_MO 21 rfl rfl 15 (by decide) hl rfl hd kk
theorem xp_MO_kind (hX : xf_ok X l own cc nL fr lo (xw_W P) D tys) (np : Nat) (hp : pc + 3 = np) {v : Int32} (hl : Cond.fieldLink own idx (xnT_MO 15).1 (xnT_MO 15).2.1 (xnT_MO 15).2.2.1 ∈ xf_GW) (hd : decode cc pc = .ok (.putfield idx, 3)) (kk : xf_V X np L st (σ, xf_I τ 5 v)) : xf_V X pc L (.int v :: .ref (xw_a P 100) :: st) (σ, τ) := xf_put hX np hp xin_MO xnK_MO xnO_MO xnM_MO 21 rfl rfl 15 (by decide) hl rfl (by decide +kernel) (Nat.le_of_ble_eq_true rfl) (σ' := (σ, xf_I τ 5 v)) rfl hd kk
theorem xg_MO_key (hX : xf_ok X l own cc nL fr lo (xw_W P) D tys) (np : Nat) (hp : pc + 3 = np) (hl : Cond.fieldLink own idx (xnT_MO 16).1 (xnT_MO 16).2.1 (xnT_MO 16).2.2.1 ∈ xf_GW) (hd : decode cc pc = .ok (.getfield idx, 3)) (kk : xf_V X np L (.int (τ.1 6) :: st) (σ, τ)) : xf_V X pc L (.ref (xw_a P 100) :: st) (σ, τ) := xf_get hX np hp xin_MO 21 rfl rfl 16 (by decide) hl rfl hd kk
theorem xp_MO_key (hX : xf_ok X l own cc nL fr lo (xw_W P) D tys) (np : Nat) (hp : pc + 3 = np) {v : Int32} (hl : Cond.fieldLink own idx (xnT_MO 16).1 (xnT_MO 16).2.1 (xnT_MO 16).2.2.1 ∈ xf_GW) (hd : decode cc pc = .ok (.putfield idx, 3)) (kk : xf_V X np L st (σ, xf_I τ 6 v)) : xf_V X pc L (.int v :: .ref (xw_a P 100) :: st) (σ, τ) := xf_put hX np hp xin_MO xnK_MO xnO_MO xnM_MO 21 rfl rfl 16 (by decide) hl rfl (by decide +kernel) (Nat.le_of_ble_eq_true rfl) (σ' := (σ, xf_I τ 6 v)) rfl hd kk
theorem xg_MO_put (hX : xf_ok X l own cc nL fr lo (xw_W P) D tys) (np : Nat) (hp : pc + 3 = np) (hl : Cond.fieldLink own idx (xnT_MO 17).1 (xnT_MO 17).2.1 (xnT_MO 17).2.2.1 ∈ xf_GW) (hd : decode cc pc = .ok (.getfield idx, 3)) (kk : xf_V X np L (.int (τ.1 7) :: st) (σ, τ)) : xf_V X pc L (.ref (xw_a P 100) :: st) (σ, τ) := xf_get hX np hp xin_MO 21 rfl rfl 17 (by decide) hl rfl hd kk
theorem xp_MO_put (hX : xf_ok X l own cc nL fr lo (xw_W P) D tys) (np : Nat) (hp : pc + 3 = np) {v : Int32} (hl : Cond.fieldLink own idx (xnT_MO 17).1 (xnT_MO 17).2.1 (xnT_MO 17).2.2.1 ∈ xf_GW) (hd : decode cc pc = .ok (.putfield idx, 3)) (kk : xf_V X np L st (σ, xf_I τ 7 v)) : xf_V X pc L (.int v :: .ref (xw_a P 100) :: st) (σ, τ) := xf_put hX np hp xin_MO xnK_MO xnO_MO xnM_MO 21 rfl rfl 17 (by decide) hl rfl (by decide +kernel) (Nat.le_of_ble_eq_true rfl) (σ' := (σ, xf_I τ 7 v)) rfl hd kk
theorem xg_MO_life (hX : xf_ok X l own cc nL fr lo (xw_W P) D tys) (np : Nat) (hp : pc + 3 = np) (hl : Cond.fieldLink own idx (xnT_MO 18).1 (xnT_MO 18).2.1 (xnT_MO 18).2.2.1 ∈ xf_GW) (hd : decode cc pc = .ok (.getfield idx, 3)) (kk : xf_V X np L (.int (τ.1 8) :: st) (σ, τ)) : xf_V X pc L (.ref (xw_a P 100) :: st) (σ, τ) := xf_get hX np hp xin_MO 21 rfl rfl 18 (by decide) hl rfl hd kk
theorem xp_MO_life (hX : xf_ok X l own cc nL fr lo (xw_W P) D tys) (np : Nat) (hp : pc + 3 = np) {v : Int32} (hl : Cond.fieldLink own idx (xnT_MO 18).1 (xnT_MO 18).2.1 (xnT_MO 18).2.2.1 ∈ xf_GW) (hd : decode cc pc = .ok (.putfield idx, 3)) (kk : xf_V X np L st (σ, xf_I τ 8 v)) : xf_V X pc L (.int v :: .ref (xw_a P 100) :: st) (σ, τ) := xf_put hX np hp xin_MO xnK_MO xnO_MO xnM_MO 21 rfl rfl 18 (by decide) hl rfl (by decide +kernel) (Nat.le_of_ble_eq_true rfl) (σ' := (σ, xf_I τ 8 v)) rfl hd kk
theorem xg_MO_wanted (hX : xf_ok X l own cc nL fr lo (xw_W P) D tys) (np : Nat) (hp : pc + 3 = np) (hl : Cond.fieldLink own idx (xnT_MO 19).1 (xnT_MO 19).2.1 (xnT_MO 19).2.2.1 ∈ xf_GW) (hd : decode cc pc = .ok (.getfield idx, 3)) (kk : xf_V X np L (.int (τ.1 9) :: st) (σ, τ)) : xf_V X pc L (.ref (xw_a P 100) :: st) (σ, τ) := xf_get hX np hp xin_MO 21 rfl rfl 19 (by decide) hl rfl hd kk
theorem xp_MO_wanted (hX : xf_ok X l own cc nL fr lo (xw_W P) D tys) (np : Nat) (hp : pc + 3 = np) {v : Int32} (hl : Cond.fieldLink own idx (xnT_MO 19).1 (xnT_MO 19).2.1 (xnT_MO 19).2.2.1 ∈ xf_GW) (hd : decode cc pc = .ok (.putfield idx, 3)) (kk : xf_V X np L st (σ, xf_I τ 9 v)) : xf_V X pc L (.int v :: .ref (xw_a P 100) :: st) (σ, τ) := xf_put hX np hp xin_MO xnK_MO xnO_MO xnM_MO 21 rfl rfl 19 (by decide) hl rfl (by decide +kernel) (Nat.le_of_ble_eq_true rfl) (σ' := (σ, xf_I τ 9 v)) rfl hd kk
theorem xg_MO_target (hX : xf_ok X l own cc nL fr lo (xw_W P) D tys) (np : Nat) (hp : pc + 3 = np) (hl : Cond.fieldLink own idx (xnT_MO 20).1 (xnT_MO 20).2.1 (xnT_MO 20).2.2.1 ∈ xf_GW) (hd : decode cc pc = .ok (.getfield idx, 3)) (kk : xf_V X np L (.int (τ.1 10) :: st) (σ, τ)) : xf_V X pc L (.ref (xw_a P 100) :: st) (σ, τ) := xf_get hX np hp xin_MO 21 rfl rfl 20 (by decide) hl rfl hd kk
theorem xp_MO_target (hX : xf_ok X l own cc nL fr lo (xw_W P) D tys) (np : Nat) (hp : pc + 3 = np) {v : Int32} (hl : Cond.fieldLink own idx (xnT_MO 20).1 (xnT_MO 20).2.1 (xnT_MO 20).2.2.1 ∈ xf_GW) (hd : decode cc pc = .ok (.putfield idx, 3)) (kk : xf_V X np L st (σ, xf_I τ 10 v)) : xf_V X pc L (.int v :: .ref (xw_a P 100) :: st) (σ, τ) := xf_put hX np hp xin_MO xnK_MO xnO_MO xnM_MO 21 rfl rfl 20 (by decide) hl rfl (by decide +kernel) (Nat.le_of_ble_eq_true rfl) (σ' := (σ, xf_I τ 10 v)) rfl hd kk
theorem xg_MO_last (hX : xf_ok X l own cc nL fr lo (xw_W P) D tys) (np : Nat) (hp : pc + 3 = np) (hl : Cond.fieldLink own idx (xnT_MO 21).1 (xnT_MO 21).2.1 (xnT_MO 21).2.2.1 ∈ xf_GW) (hd : decode cc pc = .ok (.getfield idx, 3)) (kk : xf_V X np L (.int (τ.1 11) :: st) (σ, τ)) : xf_V X pc L (.ref (xw_a P 100) :: st) (σ, τ) := xf_get hX np hp xin_MO 21 rfl rfl 21 (by decide) hl rfl hd kk
theorem xp_MO_last (hX : xf_ok X l own cc nL fr lo (xw_W P) D tys) (np : Nat) (hp : pc + 3 = np) {v : Int32} (hl : Cond.fieldLink own idx (xnT_MO 21).1 (xnT_MO 21).2.1 (xnT_MO 21).2.2.1 ∈ xf_GW) (hd : decode cc pc = .ok (.putfield idx, 3)) (kk : xf_V X np L st (σ, xf_I τ 11 v)) : xf_V X pc L (.int v :: .ref (xw_a P 100) :: st) (σ, τ) := xf_put hX np hp xin_MO xnK_MO xnO_MO xnM_MO 21 rfl rfl 21 (by decide) hl rfl (by decide +kernel) (Nat.le_of_ble_eq_true rfl) (σ' := (σ, xf_I τ 11 v)) rfl hd kk
theorem xg_MO_from (hX : xf_ok X l own cc nL fr lo (xw_W P) D tys) (np : Nat) (hp : pc + 3 = np) (hl : Cond.fieldLink own idx (xnT_MO 22).1 (xnT_MO 22).2.1 (xnT_MO 22).2.2.1 ∈ xf_GW) (hd : decode cc pc = .ok (.getfield idx, 3)) (kk : xf_V X np L (.int (τ.1 12) :: st) (σ, τ)) : xf_V X pc L (.ref (xw_a P 100) :: st) (σ, τ) := xf_get hX np hp xin_MO 21 rfl rfl 22 (by decide) hl rfl hd kk
theorem xp_MO_from (hX : xf_ok X l own cc nL fr lo (xw_W P) D tys) (np : Nat) (hp : pc + 3 = np) {v : Int32} (hl : Cond.fieldLink own idx (xnT_MO 22).1 (xnT_MO 22).2.1 (xnT_MO 22).2.2.1 ∈ xf_GW) (hd : decode cc pc = .ok (.putfield idx, 3)) (kk : xf_V X np L st (σ, xf_I τ 12 v)) : xf_V X pc L (.int v :: .ref (xw_a P 100) :: st) (σ, τ) := xf_put hX np hp xin_MO xnK_MO xnO_MO xnM_MO 21 rfl rfl 22 (by decide) hl rfl (by decide +kernel) (Nat.le_of_ble_eq_true rfl) (σ' := (σ, xf_I τ 12 v)) rfl hd kk
theorem xg_MO_path (hX : xf_ok X l own cc nL fr lo (xw_W P) D tys) (np : Nat) (hp : pc + 3 = np) (hl : Cond.fieldLink own idx (xnT_MO 23).1 (xnT_MO 23).2.1 (xnT_MO 23).2.2.1 ∈ xf_GW) (hd : decode cc pc = .ok (.getfield idx, 3)) (kk : xf_V X np L (.ref (xw_a P 109) :: st) (σ, τ)) : xf_V X pc L (.ref (xw_a P 100) :: st) (σ, τ) := xf_get hX np hp xin_MO 21 rfl rfl 23 (by decide) hl rfl hd kk
theorem xg_MO_states (hX : xf_ok X l own cc nL fr lo (xw_W P) D tys) (np : Nat) (hp : pc + 3 = np) (hl : Cond.fieldLink own idx (xnT_MO 24).1 (xnT_MO 24).2.1 (xnT_MO 24).2.2.1 ∈ xf_GW) (hd : decode cc pc = .ok (.getfield idx, 3)) (kk : xf_V X np L (.ref (xw_a P 110) :: st) (σ, τ)) : xf_V X pc L (.ref (xw_a P 100) :: st) (σ, τ) := xf_get hX np hp xin_MO 21 rfl rfl 24 (by decide) hl rfl hd kk
theorem xg_MO_sought (hX : xf_ok X l own cc nL fr lo (xw_W P) D tys) (np : Nat) (hp : pc + 3 = np) (hl : Cond.fieldLink own idx (xnT_MO 25).1 (xnT_MO 25).2.1 (xnT_MO 25).2.2.1 ∈ xf_GW) (hd : decode cc pc = .ok (.getfield idx, 3)) (kk : xf_V X np L (.ref (xw_a P 111) :: st) (σ, τ)) : xf_V X pc L (.ref (xw_a P 100) :: st) (σ, τ) := xf_get hX np hp xin_MO 21 rfl rfl 25 (by decide) hl rfl hd kk
theorem xg_MO_kept (hX : xf_ok X l own cc nL fr lo (xw_W P) D tys) (np : Nat) (hp : pc + 3 = np) (hl : Cond.fieldLink own idx (xnT_MO 26).1 (xnT_MO 26).2.1 (xnT_MO 26).2.2.1 ∈ xf_GW) (hd : decode cc pc = .ok (.getfield idx, 3)) (kk : xf_V X np L (.ref (xw_a P 112) :: st) (σ, τ)) : xf_V X pc L (.ref (xw_a P 100) :: st) (σ, τ) := xf_get hX np hp xin_MO 21 rfl rfl 26 (by decide) hl rfl hd kk
theorem xg_MO_retries (hX : xf_ok X l own cc nL fr lo (xw_W P) D tys) (np : Nat) (hp : pc + 3 = np) (hl : Cond.fieldLink own idx (xnT_MO 27).1 (xnT_MO 27).2.1 (xnT_MO 27).2.2.1 ∈ xf_GW) (hd : decode cc pc = .ok (.getfield idx, 3)) (kk : xf_V X np L (.ref (xw_a P 113) :: st) (σ, τ)) : xf_V X pc L (.ref (xw_a P 100) :: st) (σ, τ) := xf_get hX np hp xin_MO 21 rfl rfl 27 (by decide) hl rfl hd kk
theorem xg_MO_got (hX : xf_ok X l own cc nL fr lo (xw_W P) D tys) (np : Nat) (hp : pc + 3 = np) (hl : Cond.fieldLink own idx (xnT_MO 28).1 (xnT_MO 28).2.1 (xnT_MO 28).2.2.1 ∈ xf_GW) (hd : decode cc pc = .ok (.getfield idx, 3)) (kk : xf_V X np L (.ref (xw_a P 114) :: st) (σ, τ)) : xf_V X pc L (.ref (xw_a P 100) :: st) (σ, τ) := xf_get hX np hp xin_MO 21 rfl rfl 28 (by decide) hl rfl hd kk
theorem xg_MO_copied (hX : xf_ok X l own cc nL fr lo (xw_W P) D tys) (np : Nat) (hp : pc + 3 = np) (hl : Cond.fieldLink own idx (xnT_MO 29).1 (xnT_MO 29).2.1 (xnT_MO 29).2.2.1 ∈ xf_GW) (hd : decode cc pc = .ok (.getfield idx, 3)) (kk : xf_V X np L (.ref (xw_a P 115) :: st) (σ, τ)) : xf_V X pc L (.ref (xw_a P 100) :: st) (σ, τ) := xf_get hX np hp xin_MO 21 rfl rfl 29 (by decide) hl rfl hd kk
theorem xg_MO_copiedMark (hX : xf_ok X l own cc nL fr lo (xw_W P) D tys) (np : Nat) (hp : pc + 3 = np) (hl : Cond.fieldLink own idx (xnT_MO 30).1 (xnT_MO 30).2.1 (xnT_MO 30).2.2.1 ∈ xf_GW) (hd : decode cc pc = .ok (.getfield idx, 3)) (kk : xf_V X np L (.ref (xw_a P 116) :: st) (σ, τ)) : xf_V X pc L (.ref (xw_a P 100) :: st) (σ, τ) := xf_get hX np hp xin_MO 21 rfl rfl 30 (by decide) hl rfl hd kk
theorem xg_MO_copiedEnd (hX : xf_ok X l own cc nL fr lo (xw_W P) D tys) (np : Nat) (hp : pc + 3 = np) (hl : Cond.fieldLink own idx (xnT_MO 31).1 (xnT_MO 31).2.1 (xnT_MO 31).2.2.1 ∈ xf_GW) (hd : decode cc pc = .ok (.getfield idx, 3)) (kk : xf_V X np L (.ref (xw_a P 117) :: st) (σ, τ)) : xf_V X pc L (.ref (xw_a P 100) :: st) (σ, τ) := xf_get hX np hp xin_MO 21 rfl rfl 31 (by decide) hl rfl hd kk
theorem xg_MO_evictions (hX : xf_ok X l own cc nL fr lo (xw_W P) D tys) (np : Nat) (hp : pc + 3 = np) (hl : Cond.fieldLink own idx (xnT_MO 32).1 (xnT_MO 32).2.1 (xnT_MO 32).2.2.1 ∈ xf_GW) (hd : decode cc pc = .ok (.getfield idx, 3)) (kk : xf_V X np L (.int (τ.1 13) :: st) (σ, τ)) : xf_V X pc L (.ref (xw_a P 100) :: st) (σ, τ) := xf_get hX np hp xin_MO 21 rfl rfl 32 (by decide) hl rfl hd kk
theorem xp_MO_evictions (hX : xf_ok X l own cc nL fr lo (xw_W P) D tys) (np : Nat) (hp : pc + 3 = np) {v : Int32} (hl : Cond.fieldLink own idx (xnT_MO 32).1 (xnT_MO 32).2.1 (xnT_MO 32).2.2.1 ∈ xf_GW) (hd : decode cc pc = .ok (.putfield idx, 3)) (kk : xf_V X np L st (σ, xf_I τ 13 v)) : xf_V X pc L (.int v :: .ref (xw_a P 100) :: st) (σ, τ) := xf_put hX np hp xin_MO xnK_MO xnO_MO xnM_MO 21 rfl rfl 32 (by decide) hl rfl (by decide +kernel) (Nat.le_of_ble_eq_true rfl) (σ' := (σ, xf_I τ 13 v)) rfl hd kk
theorem xg_MO_moves (hX : xf_ok X l own cc nL fr lo (xw_W P) D tys) (np : Nat) (hp : pc + 3 = np) (hl : Cond.fieldLink own idx (xnT_MO 33).1 (xnT_MO 33).2.1 (xnT_MO 33).2.2.1 ∈ xf_GW) (hd : decode cc pc = .ok (.getfield idx, 3)) (kk : xf_V X np L (.int (τ.1 14) :: st) (σ, τ)) : xf_V X pc L (.ref (xw_a P 100) :: st) (σ, τ) := xf_get hX np hp xin_MO 21 rfl rfl 33 (by decide) hl rfl hd kk
theorem xp_MO_moves (hX : xf_ok X l own cc nL fr lo (xw_W P) D tys) (np : Nat) (hp : pc + 3 = np) {v : Int32} (hl : Cond.fieldLink own idx (xnT_MO 33).1 (xnT_MO 33).2.1 (xnT_MO 33).2.2.1 ∈ xf_GW) (hd : decode cc pc = .ok (.putfield idx, 3)) (kk : xf_V X np L st (σ, xf_I τ 14 v)) : xf_V X pc L (.int v :: .ref (xw_a P 100) :: st) (σ, τ) := xf_put hX np hp xin_MO xnK_MO xnO_MO xnM_MO 21 rfl rfl 33 (by decide) hl rfl (by decide +kernel) (Nat.le_of_ble_eq_true rfl) (σ' := (σ, xf_I τ 14 v)) rfl hd kk
theorem xg_MO_allRetries (hX : xf_ok X l own cc nL fr lo (xw_W P) D tys) (np : Nat) (hp : pc + 3 = np) (hl : Cond.fieldLink own idx (xnT_MO 34).1 (xnT_MO 34).2.1 (xnT_MO 34).2.2.1 ∈ xf_GW) (hd : decode cc pc = .ok (.getfield idx, 3)) (kk : xf_V X np L (.int (τ.1 15) :: st) (σ, τ)) : xf_V X pc L (.ref (xw_a P 100) :: st) (σ, τ) := xf_get hX np hp xin_MO 21 rfl rfl 34 (by decide) hl rfl hd kk
theorem xp_MO_allRetries (hX : xf_ok X l own cc nL fr lo (xw_W P) D tys) (np : Nat) (hp : pc + 3 = np) {v : Int32} (hl : Cond.fieldLink own idx (xnT_MO 34).1 (xnT_MO 34).2.1 (xnT_MO 34).2.2.1 ∈ xf_GW) (hd : decode cc pc = .ok (.putfield idx, 3)) (kk : xf_V X np L st (σ, xf_I τ 15 v)) : xf_V X pc L (.int v :: .ref (xw_a P 100) :: st) (σ, τ) := xf_put hX np hp xin_MO xnK_MO xnO_MO xnM_MO 21 rfl rfl 34 (by decide) hl rfl (by decide +kernel) (Nat.le_of_ble_eq_true rfl) (σ' := (σ, xf_I τ 15 v)) rfl hd kk
theorem xg_MO_waits (hX : xf_ok X l own cc nL fr lo (xw_W P) D tys) (np : Nat) (hp : pc + 3 = np) (hl : Cond.fieldLink own idx (xnT_MO 35).1 (xnT_MO 35).2.1 (xnT_MO 35).2.2.1 ∈ xf_GW) (hd : decode cc pc = .ok (.getfield idx, 3)) (kk : xf_V X np L (.int (τ.1 16) :: st) (σ, τ)) : xf_V X pc L (.ref (xw_a P 100) :: st) (σ, τ) := xf_get hX np hp xin_MO 21 rfl rfl 35 (by decide) hl rfl hd kk
theorem xp_MO_waits (hX : xf_ok X l own cc nL fr lo (xw_W P) D tys) (np : Nat) (hp : pc + 3 = np) {v : Int32} (hl : Cond.fieldLink own idx (xnT_MO 35).1 (xnT_MO 35).2.1 (xnT_MO 35).2.2.1 ∈ xf_GW) (hd : decode cc pc = .ok (.putfield idx, 3)) (kk : xf_V X np L st (σ, xf_I τ 16 v)) : xf_V X pc L (.int v :: .ref (xw_a P 100) :: st) (σ, τ) := xf_put hX np hp xin_MO xnK_MO xnO_MO xnM_MO 21 rfl rfl 35 (by decide) hl rfl (by decide +kernel) (Nat.le_of_ble_eq_true rfl) (σ' := (σ, xf_I τ 16 v)) rfl hd kk
theorem xg_MO_near (hX : xf_ok X l own cc nL fr lo (xw_W P) D tys) (np : Nat) (hp : pc + 3 = np) (hl : Cond.fieldLink own idx (xnT_MO 36).1 (xnT_MO 36).2.1 (xnT_MO 36).2.2.1 ∈ xf_GW) (hd : decode cc pc = .ok (.getfield idx, 3)) (kk : xf_V X np L (.int (τ.1 17) :: st) (σ, τ)) : xf_V X pc L (.ref (xw_a P 100) :: st) (σ, τ) := xf_get hX np hp xin_MO 21 rfl rfl 36 (by decide) hl rfl hd kk
theorem xp_MO_near (hX : xf_ok X l own cc nL fr lo (xw_W P) D tys) (np : Nat) (hp : pc + 3 = np) {v : Int32} (hl : Cond.fieldLink own idx (xnT_MO 36).1 (xnT_MO 36).2.1 (xnT_MO 36).2.2.1 ∈ xf_GW) (hd : decode cc pc = .ok (.putfield idx, 3)) (kk : xf_V X np L st (σ, xf_I τ 17 v)) : xf_V X pc L (.int v :: .ref (xw_a P 100) :: st) (σ, τ) := xf_put hX np hp xin_MO xnK_MO xnO_MO xnM_MO 21 rfl rfl 36 (by decide) hl rfl (by decide +kernel) (Nat.le_of_ble_eq_true rfl) (σ' := (σ, xf_I τ 17 v)) rfl hd kk
theorem xg_MO_dead (hX : xf_ok X l own cc nL fr lo (xw_W P) D tys) (np : Nat) (hp : pc + 3 = np) (hl : Cond.fieldLink own idx (xnT_MO 37).1 (xnT_MO 37).2.1 (xnT_MO 37).2.2.1 ∈ xf_GW) (hd : decode cc pc = .ok (.getfield idx, 3)) (kk : xf_V X np L (.int (τ.1 18) :: st) (σ, τ)) : xf_V X pc L (.ref (xw_a P 100) :: st) (σ, τ) := xf_get hX np hp xin_MO 21 rfl rfl 37 (by decide) hl rfl hd kk
theorem xp_MO_dead (hX : xf_ok X l own cc nL fr lo (xw_W P) D tys) (np : Nat) (hp : pc + 3 = np) {v : Int32} (hl : Cond.fieldLink own idx (xnT_MO 37).1 (xnT_MO 37).2.1 (xnT_MO 37).2.2.1 ∈ xf_GW) (hd : decode cc pc = .ok (.putfield idx, 3)) (kk : xf_V X np L st (σ, xf_I τ 18 v)) : xf_V X pc L (.int v :: .ref (xw_a P 100) :: st) (σ, τ) := xf_put hX np hp xin_MO xnK_MO xnO_MO xnM_MO 21 rfl rfl 37 (by decide) hl rfl (by decide +kernel) (Nat.le_of_ble_eq_true rfl) (σ' := (σ, xf_I τ 18 v)) rfl hd kk
def xw_XI : Nat → Bool
  | 5 => true
  | 6 => true
  | 7 => true
  | 8 => true
  | 9 => true
  | 12 => true
  | 14 => true
  | 15 => true
  | 16 => true
  | 17 => true
  | _ => false
theorem xw_XI_or {q : Nat} (hq : xw_XI q = true) : q = 5 ∨ q = 6 ∨ q = 7 ∨ q = 8 ∨ q = 9 ∨ q = 12 ∨ q = 14 ∨ q = 15 ∨ q = 16 ∨ q = 17 := by
  unfold xw_XI at hq
  split at hq <;> first | omega | (cases hq; done)
theorem xaX_iaload (hX : xf_ok X l own cc nL fr lo (xw_W P) D (xw_ty P)) (np : Nat) (hp : pc + 1 = np) {q : Nat} (hq : xw_XI q = true) {i : Int32} (hin : vp_in i (xw_len P q)) (hd : decode cc pc = .ok (.iaload, 1)) (kk : xf_V X np L (.int (σ.2 q i.toNatClampNeg) :: st) (σ, τ)) : xf_V X pc L (.int i :: .ref (xw_a P q) :: st) (σ, τ) := by
  rcases xw_XI_or hq with rfl | rfl | rfl | rfl | rfl | rfl | rfl | rfl | rfl | rfl
  · exact xf_iald hX np hp 5 0 rfl rfl hin hd kk
  · exact xf_iald hX np hp 6 0 rfl rfl hin hd kk
  · exact xf_iald hX np hp 7 0 rfl rfl hin hd kk
  · exact xf_iald hX np hp 8 0 rfl rfl hin hd kk
  · exact xf_iald hX np hp 9 0 rfl rfl hin hd kk
  · exact xf_iald hX np hp 12 0 rfl rfl hin hd kk
  · exact xf_iald hX np hp 14 0 rfl rfl hin hd kk
  · exact xf_iald hX np hp 15 0 rfl rfl hin hd kk
  · exact xf_iald hX np hp 16 0 rfl rfl hin hd kk
  · exact xf_iald hX np hp 17 0 rfl rfl hin hd kk
theorem xaX_iastore (hX : xf_ok X l own cc nL fr lo (xw_W P) D (xw_ty P)) (np : Nat) (hp : pc + 1 = np) {q : Nat} (hq : xw_XI q = true) {i x : Int32} (hin : vp_in i (xw_len P q)) (hd : decode cc pc = .ok (.iastore, 1)) (kk : xf_V X np L st (xf_A σ q i.toNatClampNeg x, τ)) : xf_V X pc L (.int x :: .int i :: .ref (xw_a P q) :: st) (σ, τ) := by
  rcases xw_XI_or hq with rfl | rfl | rfl | rfl | rfl | rfl | rfl | rfl | rfl | rfl
  · exact xf_iast hX np hp 5 0 rfl rfl hin hd (σ' := (xf_A σ 5 i.toNatClampNeg x, τ)) rfl kk
  · exact xf_iast hX np hp 6 0 rfl rfl hin hd (σ' := (xf_A σ 6 i.toNatClampNeg x, τ)) rfl kk
  · exact xf_iast hX np hp 7 0 rfl rfl hin hd (σ' := (xf_A σ 7 i.toNatClampNeg x, τ)) rfl kk
  · exact xf_iast hX np hp 8 0 rfl rfl hin hd (σ' := (xf_A σ 8 i.toNatClampNeg x, τ)) rfl kk
  · exact xf_iast hX np hp 9 0 rfl rfl hin hd (σ' := (xf_A σ 9 i.toNatClampNeg x, τ)) rfl kk
  · exact xf_iast hX np hp 12 0 rfl rfl hin hd (σ' := (xf_A σ 12 i.toNatClampNeg x, τ)) rfl kk
  · exact xf_iast hX np hp 14 0 rfl rfl hin hd (σ' := (xf_A σ 14 i.toNatClampNeg x, τ)) rfl kk
  · exact xf_iast hX np hp 15 0 rfl rfl hin hd (σ' := (xf_A σ 15 i.toNatClampNeg x, τ)) rfl kk
  · exact xf_iast hX np hp 16 0 rfl rfl hin hd (σ' := (xf_A σ 16 i.toNatClampNeg x, τ)) rfl kk
  · exact xf_iast hX np hp 17 0 rfl rfl hin hd (σ' := (xf_A σ 17 i.toNatClampNeg x, τ)) rfl kk
def xw_XZ : Nat → Bool
  | 10 => true
  | 11 => true
  | _ => false
theorem xw_XZ_or {q : Nat} (hq : xw_XZ q = true) : q = 10 ∨ q = 11 := by
  unfold xw_XZ at hq
  split at hq <;> first | omega | (cases hq; done)
theorem xaX_baload (hX : xf_ok X l own cc nL fr lo (xw_W P) D (xw_ty P)) (np : Nat) (hp : pc + 1 = np) {q : Nat} (hq : xw_XZ q = true) {i : Int32} (hin : vp_in i (xw_len P q)) (hd : decode cc pc = .ok (.baload, 1)) (kk : xf_V X np L (.int (σ.2 q i.toNatClampNeg) :: st) (σ, τ)) : xf_V X pc L (.int i :: .ref (xw_a P q) :: st) (σ, τ) := by
  rcases xw_XZ_or hq with rfl | rfl
  · exact xf_zald hX np hp 10 1 rfl rfl hin hd kk
  · exact xf_zald hX np hp 11 1 rfl rfl hin hd kk
theorem xaX_bastore (hX : xf_ok X l own cc nL fr lo (xw_W P) D (xw_ty P)) (np : Nat) (hp : pc + 1 = np) {q : Nat} (hq : xw_XZ q = true) {i x : Int32} (hin : vp_in i (xw_len P q)) (hz : vp_nar .boolean x = x) (hd : decode cc pc = .ok (.bastore, 1)) (kk : xf_V X np L st (xf_A σ q i.toNatClampNeg x, τ)) : xf_V X pc L (.int x :: .int i :: .ref (xw_a P q) :: st) (σ, τ) := by
  rcases xw_XZ_or hq with rfl | rfl
  · exact xf_zast hX np hp 10 1 rfl rfl hin hz hd (σ' := (xf_A σ 10 i.toNatClampNeg x, τ)) rfl kk
  · exact xf_zast hX np hp 11 1 rfl rfl hin hz hd (σ' := (xf_A σ 11 i.toNatClampNeg x, τ)) rfl kk
theorem xaX_alen (hX : xf_ok X l own cc nL fr lo (xw_W P) D (xw_ty P)) (np : Nat) (hp : pc + 1 = np) {q : Nat} (hq : xw_XI q = true) (hd : decode cc pc = .ok (.arraylength, 1)) (kk : xf_V X np L (.int (nI (xw_len P q)) :: st) (σ, τ)) : xf_V X pc L (.ref (xw_a P q) :: st) (σ, τ) := by
  rcases xw_XI_or hq with rfl | rfl | rfl | rfl | rfl | rfl | rfl | rfl | rfl | rfl
  · exact xf_alen hX np hp 5 0 rfl rfl rfl hd kk
  · exact xf_alen hX np hp 6 0 rfl rfl rfl hd kk
  · exact xf_alen hX np hp 7 0 rfl rfl rfl hd kk
  · exact xf_alen hX np hp 8 0 rfl rfl rfl hd kk
  · exact xf_alen hX np hp 9 0 rfl rfl rfl hd kk
  · exact xf_alen hX np hp 12 0 rfl rfl rfl hd kk
  · exact xf_alen hX np hp 14 0 rfl rfl rfl hd kk
  · exact xf_alen hX np hp 15 0 rfl rfl rfl hd kk
  · exact xf_alen hX np hp 16 0 rfl rfl rfl hd kk
  · exact xf_alen hX np hp 17 0 rfl rfl rfl hd kk
def xw_MI : Nat → Bool
  | 1 => true
  | 3 => true
  | 4 => true
  | 5 => true
  | 6 => true
  | 8 => true
  | 9 => true
  | 10 => true
  | 11 => true
  | 12 => true
  | 13 => true
  | 14 => true
  | 15 => true
  | 16 => true
  | 17 => true
  | _ => false
theorem xw_MI_or {q : Nat} (hq : xw_MI q = true) : q = 1 ∨ q = 3 ∨ q = 4 ∨ q = 5 ∨ q = 6 ∨ q = 8 ∨ q = 9 ∨ q = 10 ∨ q = 11 ∨ q = 12 ∨ q = 13 ∨ q = 14 ∨ q = 15 ∨ q = 16 ∨ q = 17 := by
  unfold xw_MI at hq
  split at hq <;> first | omega | (cases hq; done)
theorem xaM_iaload (hX : xf_ok X l own cc nL fr lo (xw_W P) D (xw_ty P)) (np : Nat) (hp : pc + 1 = np) {q : Nat} (hq : xw_MI q = true) {i : Int32} (hin : vp_in i (xw_len P (q + 100))) (hd : decode cc pc = .ok (.iaload, 1)) (kk : xf_V X np L (.int (τ.2 q i.toNatClampNeg) :: st) (σ, τ)) : xf_V X pc L (.int i :: .ref (xw_a P (q + 100)) :: st) (σ, τ) := by
  rcases xw_MI_or hq with rfl | rfl | rfl | rfl | rfl | rfl | rfl | rfl | rfl | rfl | rfl | rfl | rfl | rfl | rfl
  · exact xf_iald hX np hp 22 0 rfl rfl hin hd kk
  · exact xf_iald hX np hp 24 0 rfl rfl hin hd kk
  · exact xf_iald hX np hp 25 0 rfl rfl hin hd kk
  · exact xf_iald hX np hp 26 0 rfl rfl hin hd kk
  · exact xf_iald hX np hp 27 0 rfl rfl hin hd kk
  · exact xf_iald hX np hp 29 0 rfl rfl hin hd kk
  · exact xf_iald hX np hp 30 0 rfl rfl hin hd kk
  · exact xf_iald hX np hp 31 0 rfl rfl hin hd kk
  · exact xf_iald hX np hp 32 0 rfl rfl hin hd kk
  · exact xf_iald hX np hp 33 0 rfl rfl hin hd kk
  · exact xf_iald hX np hp 34 0 rfl rfl hin hd kk
  · exact xf_iald hX np hp 35 0 rfl rfl hin hd kk
  · exact xf_iald hX np hp 36 0 rfl rfl hin hd kk
  · exact xf_iald hX np hp 37 0 rfl rfl hin hd kk
  · exact xf_iald hX np hp 38 0 rfl rfl hin hd kk
theorem xaM_iastore (hX : xf_ok X l own cc nL fr lo (xw_W P) D (xw_ty P)) (np : Nat) (hp : pc + 1 = np) {q : Nat} (hq : xw_MI q = true) {i x : Int32} (hin : vp_in i (xw_len P (q + 100))) (hd : decode cc pc = .ok (.iastore, 1)) (kk : xf_V X np L st (σ, xf_A τ q i.toNatClampNeg x)) : xf_V X pc L (.int x :: .int i :: .ref (xw_a P (q + 100)) :: st) (σ, τ) := by
  rcases xw_MI_or hq with rfl | rfl | rfl | rfl | rfl | rfl | rfl | rfl | rfl | rfl | rfl | rfl | rfl | rfl | rfl
  · exact xf_iast hX np hp 22 0 rfl rfl hin hd (σ' := (σ, xf_A τ 1 i.toNatClampNeg x)) rfl kk
  · exact xf_iast hX np hp 24 0 rfl rfl hin hd (σ' := (σ, xf_A τ 3 i.toNatClampNeg x)) rfl kk
  · exact xf_iast hX np hp 25 0 rfl rfl hin hd (σ' := (σ, xf_A τ 4 i.toNatClampNeg x)) rfl kk
  · exact xf_iast hX np hp 26 0 rfl rfl hin hd (σ' := (σ, xf_A τ 5 i.toNatClampNeg x)) rfl kk
  · exact xf_iast hX np hp 27 0 rfl rfl hin hd (σ' := (σ, xf_A τ 6 i.toNatClampNeg x)) rfl kk
  · exact xf_iast hX np hp 29 0 rfl rfl hin hd (σ' := (σ, xf_A τ 8 i.toNatClampNeg x)) rfl kk
  · exact xf_iast hX np hp 30 0 rfl rfl hin hd (σ' := (σ, xf_A τ 9 i.toNatClampNeg x)) rfl kk
  · exact xf_iast hX np hp 31 0 rfl rfl hin hd (σ' := (σ, xf_A τ 10 i.toNatClampNeg x)) rfl kk
  · exact xf_iast hX np hp 32 0 rfl rfl hin hd (σ' := (σ, xf_A τ 11 i.toNatClampNeg x)) rfl kk
  · exact xf_iast hX np hp 33 0 rfl rfl hin hd (σ' := (σ, xf_A τ 12 i.toNatClampNeg x)) rfl kk
  · exact xf_iast hX np hp 34 0 rfl rfl hin hd (σ' := (σ, xf_A τ 13 i.toNatClampNeg x)) rfl kk
  · exact xf_iast hX np hp 35 0 rfl rfl hin hd (σ' := (σ, xf_A τ 14 i.toNatClampNeg x)) rfl kk
  · exact xf_iast hX np hp 36 0 rfl rfl hin hd (σ' := (σ, xf_A τ 15 i.toNatClampNeg x)) rfl kk
  · exact xf_iast hX np hp 37 0 rfl rfl hin hd (σ' := (σ, xf_A τ 16 i.toNatClampNeg x)) rfl kk
  · exact xf_iast hX np hp 38 0 rfl rfl hin hd (σ' := (σ, xf_A τ 17 i.toNatClampNeg x)) rfl kk
def xw_MZ : Nat → Bool
  | 2 => true
  | 7 => true
  | _ => false
theorem xw_MZ_or {q : Nat} (hq : xw_MZ q = true) : q = 2 ∨ q = 7 := by
  unfold xw_MZ at hq
  split at hq <;> first | omega | (cases hq; done)
theorem xaM_baload (hX : xf_ok X l own cc nL fr lo (xw_W P) D (xw_ty P)) (np : Nat) (hp : pc + 1 = np) {q : Nat} (hq : xw_MZ q = true) {i : Int32} (hin : vp_in i (xw_len P (q + 100))) (hd : decode cc pc = .ok (.baload, 1)) (kk : xf_V X np L (.int (τ.2 q i.toNatClampNeg) :: st) (σ, τ)) : xf_V X pc L (.int i :: .ref (xw_a P (q + 100)) :: st) (σ, τ) := by
  rcases xw_MZ_or hq with rfl | rfl
  · exact xf_zald hX np hp 23 1 rfl rfl hin hd kk
  · exact xf_zald hX np hp 28 1 rfl rfl hin hd kk
theorem xaM_bastore (hX : xf_ok X l own cc nL fr lo (xw_W P) D (xw_ty P)) (np : Nat) (hp : pc + 1 = np) {q : Nat} (hq : xw_MZ q = true) {i x : Int32} (hin : vp_in i (xw_len P (q + 100))) (hz : vp_nar .boolean x = x) (hd : decode cc pc = .ok (.bastore, 1)) (kk : xf_V X np L st (σ, xf_A τ q i.toNatClampNeg x)) : xf_V X pc L (.int x :: .int i :: .ref (xw_a P (q + 100)) :: st) (σ, τ) := by
  rcases xw_MZ_or hq with rfl | rfl
  · exact xf_zast hX np hp 23 1 rfl rfl hin hz hd (σ' := (σ, xf_A τ 2 i.toNatClampNeg x)) rfl kk
  · exact xf_zast hX np hp 28 1 rfl rfl hin hz hd (σ' := (σ, xf_A τ 7 i.toNatClampNeg x)) rfl kk
theorem xaM_alen (hX : xf_ok X l own cc nL fr lo (xw_W P) D (xw_ty P)) (np : Nat) (hp : pc + 1 = np) {q : Nat} (hq : xw_MI q = true) (hd : decode cc pc = .ok (.arraylength, 1)) (kk : xf_V X np L (.int (nI (xw_len P (q + 100))) :: st) (σ, τ)) : xf_V X pc L (.ref (xw_a P (q + 100)) :: st) (σ, τ) := by
  rcases xw_MI_or hq with rfl | rfl | rfl | rfl | rfl | rfl | rfl | rfl | rfl | rfl | rfl | rfl | rfl | rfl | rfl
  · exact xf_alen hX np hp 22 0 rfl rfl rfl hd kk
  · exact xf_alen hX np hp 24 0 rfl rfl rfl hd kk
  · exact xf_alen hX np hp 25 0 rfl rfl rfl hd kk
  · exact xf_alen hX np hp 26 0 rfl rfl rfl hd kk
  · exact xf_alen hX np hp 27 0 rfl rfl rfl hd kk
  · exact xf_alen hX np hp 29 0 rfl rfl rfl hd kk
  · exact xf_alen hX np hp 30 0 rfl rfl rfl hd kk
  · exact xf_alen hX np hp 31 0 rfl rfl rfl hd kk
  · exact xf_alen hX np hp 32 0 rfl rfl rfl hd kk
  · exact xf_alen hX np hp 33 0 rfl rfl rfl hd kk
  · exact xf_alen hX np hp 34 0 rfl rfl rfl hd kk
  · exact xf_alen hX np hp 35 0 rfl rfl rfl hd kk
  · exact xf_alen hX np hp 36 0 rfl rfl rfl hd kk
  · exact xf_alen hX np hp 37 0 rfl rfl rfl hd kk
  · exact xf_alen hX np hp 38 0 rfl rfl rfl hd kk
theorem xaX_aaload (hX : xf_ok X l own cc nL fr lo (xw_W P) D (xw_ty P)) (np : Nat) (hp : pc + 1 = np) (h4 : (4 : Nat) = 4) {i : Int32} (hin : vp_in i 3) (hd : decode cc pc = .ok (.aaload, 1)) (kk : xf_V X np L (.ref (xw_a P (18 + i.toNatClampNeg)) :: st) (σ, τ)) : xf_V X pc L (.int i :: .ref (xw_a P 4) :: st) (σ, τ) := xf_aald hX np hp 4 2 rfl rfl hin hd rfl kk
end XWF
end
