section
-- ===== PART A: goes FIRST, ahead of the names: the tables' words, and 'selects' of the private methods out of them =====
/-- a private method of a class that the tables say can be made, by its rows of tables_1 -/
def lw_okq (q : MethodName × Nat) : Prop := (q.1.cls ≠ "java/lang/invoke/MethodHandle" ∧ q.1.cls ≠ "java/lang/invoke/VarHandle") ∧ Cond.instantiable q.1.cls q.2 ∈ tables_1 ∧ Cond.privateMethod q.1 ∈ tables_1 ∧ Cond.instanceMethod q.1 ∈ tables_1
theorem lw_p0 : lw_okq (⟨"FutexKernel", "firstToTimeOut", "()LFutexKernel$Task;"⟩, 6) := ⟨⟨by decide +kernel, by decide +kernel⟩, List.mem_of_getElem? (i := 13) (by decide +kernel), List.mem_of_getElem? (i := 115) (by decide +kernel), List.mem_of_getElem? (i := 116) (by decide +kernel)⟩
theorem lw_p1 : lw_okq (⟨"FutexKernel", "taskOf", "(I)LFutexKernel$Task;"⟩, 6) := ⟨⟨by decide +kernel, by decide +kernel⟩, List.mem_of_getElem? (i := 13) (by decide +kernel), List.mem_of_getElem? (i := 132) (by decide +kernel), List.mem_of_getElem? (i := 133) (by decide +kernel)⟩
theorem lw_p2 : lw_okq (⟨"java/lang/Throwable", "fillInStackTrace", "(I)Ljava/lang/Throwable;"⟩, 6) := ⟨⟨by decide +kernel, by decide +kernel⟩, List.mem_of_getElem? (i := 174) (by decide +kernel), List.mem_of_getElem? (i := 172) (by decide +kernel), List.mem_of_getElem? (i := 173) (by decide +kernel)⟩
theorem lw_p3 : lw_okq (⟨"FutexKernel", "beginWait", "(LFutexKernel$Task;IIII)V"⟩, 6) := ⟨⟨by decide +kernel, by decide +kernel⟩, List.mem_of_getElem? (i := 13) (by decide +kernel), List.mem_of_getElem? (i := 278) (by decide +kernel), List.mem_of_getElem? (i := 279) (by decide +kernel)⟩
theorem lw_p4 : lw_okq (⟨"FutexKernel", "joinQueue", "(LFutexKernel$Task;I)V"⟩, 6) := ⟨⟨by decide +kernel, by decide +kernel⟩, List.mem_of_getElem? (i := 13) (by decide +kernel), List.mem_of_getElem? (i := 282) (by decide +kernel), List.mem_of_getElem? (i := 283) (by decide +kernel)⟩
theorem lw_p5 : lw_okq (⟨"FutexKernel", "wakeFirst", "(III)I"⟩, 6) := ⟨⟨by decide +kernel, by decide +kernel⟩, List.mem_of_getElem? (i := 13) (by decide +kernel), List.mem_of_getElem? (i := 293) (by decide +kernel), List.mem_of_getElem? (i := 294) (by decide +kernel)⟩
theorem lw_p6 : lw_okq (⟨"FutexKernel", "firstAt", "(III)LFutexKernel$Task;"⟩, 6) := ⟨⟨by decide +kernel, by decide +kernel⟩, List.mem_of_getElem? (i := 13) (by decide +kernel), List.mem_of_getElem? (i := 297) (by decide +kernel), List.mem_of_getElem? (i := 298) (by decide +kernel)⟩
theorem lw_p7 : lw_okq (⟨"FutexKernel", "endWait", "(LFutexKernel$Task;I)V"⟩, 6) := ⟨⟨by decide +kernel, by decide +kernel⟩, List.mem_of_getElem? (i := 13) (by decide +kernel), List.mem_of_getElem? (i := 305) (by decide +kernel), List.mem_of_getElem? (i := 306) (by decide +kernel)⟩
theorem lw_p8 : lw_okq (⟨"FutexKernel", "leaveQueue", "(LFutexKernel$Task;)V"⟩, 6) := ⟨⟨by decide +kernel, by decide +kernel⟩, List.mem_of_getElem? (i := 13) (by decide +kernel), List.mem_of_getElem? (i := 309) (by decide +kernel), List.mem_of_getElem? (i := 310) (by decide +kernel)⟩
theorem lw_p9 : lw_okq (⟨"FutexKernel", "firstLockingAt", "(I)LFutexKernel$Task;"⟩, 6) := ⟨⟨by decide +kernel, by decide +kernel⟩, List.mem_of_getElem? (i := 13) (by decide +kernel), List.mem_of_getElem? (i := 313) (by decide +kernel), List.mem_of_getElem? (i := 314) (by decide +kernel)⟩
theorem lw_p10 : lw_okq (⟨"FutexKernel", "moveFirst", "(III)I"⟩, 6) := ⟨⟨by decide +kernel, by decide +kernel⟩, List.mem_of_getElem? (i := 13) (by decide +kernel), List.mem_of_getElem? (i := 326) (by decide +kernel), List.mem_of_getElem? (i := 327) (by decide +kernel)⟩
theorem lw_p11 : lw_okq (⟨"FutexKernel", "giveLock", "(LFutexKernel$Task;II)V"⟩, 6) := ⟨⟨by decide +kernel, by decide +kernel⟩, List.mem_of_getElem? (i := 13) (by decide +kernel), List.mem_of_getElem? (i := 338) (by decide +kernel), List.mem_of_getElem? (i := 339) (by decide +kernel)⟩
theorem lw_p12 : lw_okq (⟨"FutexKernel$LockList", "placeOf", "(I)I"⟩, 2) := ⟨⟨by decide +kernel, by decide +kernel⟩, List.mem_of_getElem? (i := 28) (by decide +kernel), List.mem_of_getElem? (i := 347) (by decide +kernel), List.mem_of_getElem? (i := 348) (by decide +kernel)⟩
theorem lw_p13 : lw_okq (⟨"FutexKernel", "ownerAt", "(I)LFutexKernel$Task;"⟩, 6) := ⟨⟨by decide +kernel, by decide +kernel⟩, List.mem_of_getElem? (i := 13) (by decide +kernel), List.mem_of_getElem? (i := 351) (by decide +kernel), List.mem_of_getElem? (i := 352) (by decide +kernel)⟩
theorem lw_p14 : lw_okq (⟨"FutexKernel", "isHeldUpBy", "(LFutexKernel$Task;LFutexKernel$Task;)Z"⟩, 6) := ⟨⟨by decide +kernel, by decide +kernel⟩, List.mem_of_getElem? (i := 13) (by decide +kernel), List.mem_of_getElem? (i := 355) (by decide +kernel), List.mem_of_getElem? (i := 356) (by decide +kernel)⟩
theorem lw_p15 : lw_okq (⟨"FutexKernel", "passOn", "(IZ)I"⟩, 6) := ⟨⟨by decide +kernel, by decide +kernel⟩, List.mem_of_getElem? (i := 13) (by decide +kernel), List.mem_of_getElem? (i := 371) (by decide +kernel), List.mem_of_getElem? (i := 372) (by decide +kernel)⟩
def lw_privs_1 : List (MethodName × Nat) := [(⟨"FutexKernel", "firstToTimeOut", "()LFutexKernel$Task;"⟩, 6), (⟨"FutexKernel", "taskOf", "(I)LFutexKernel$Task;"⟩, 6), (⟨"java/lang/Throwable", "fillInStackTrace", "(I)Ljava/lang/Throwable;"⟩, 6), (⟨"FutexKernel", "beginWait", "(LFutexKernel$Task;IIII)V"⟩, 6), (⟨"FutexKernel", "joinQueue", "(LFutexKernel$Task;I)V"⟩, 6), (⟨"FutexKernel", "wakeFirst", "(III)I"⟩, 6), (⟨"FutexKernel", "firstAt", "(III)LFutexKernel$Task;"⟩, 6), (⟨"FutexKernel", "endWait", "(LFutexKernel$Task;I)V"⟩, 6), (⟨"FutexKernel", "leaveQueue", "(LFutexKernel$Task;)V"⟩, 6), (⟨"FutexKernel", "firstLockingAt", "(I)LFutexKernel$Task;"⟩, 6), (⟨"FutexKernel", "moveFirst", "(III)I"⟩, 6), (⟨"FutexKernel", "giveLock", "(LFutexKernel$Task;II)V"⟩, 6), (⟨"FutexKernel$LockList", "placeOf", "(I)I"⟩, 2), (⟨"FutexKernel", "ownerAt", "(I)LFutexKernel$Task;"⟩, 6), (⟨"FutexKernel", "isHeldUpBy", "(LFutexKernel$Task;LFutexKernel$Task;)Z"⟩, 6), (⟨"FutexKernel", "passOn", "(IZ)I"⟩, 6)]
theorem lw_r1 : ∀ q ∈ lw_privs_1, lw_okq q := List.forall_mem_cons.mpr ⟨lw_p0, List.forall_mem_cons.mpr ⟨lw_p1, List.forall_mem_cons.mpr ⟨lw_p2, List.forall_mem_cons.mpr ⟨lw_p3, List.forall_mem_cons.mpr ⟨lw_p4, List.forall_mem_cons.mpr ⟨lw_p5, List.forall_mem_cons.mpr ⟨lw_p6, List.forall_mem_cons.mpr ⟨lw_p7, List.forall_mem_cons.mpr ⟨lw_p8, List.forall_mem_cons.mpr ⟨lw_p9, List.forall_mem_cons.mpr ⟨lw_p10, List.forall_mem_cons.mpr ⟨lw_p11, List.forall_mem_cons.mpr ⟨lw_p12, List.forall_mem_cons.mpr ⟨lw_p13, List.forall_mem_cons.mpr ⟨lw_p14, List.forall_mem_cons.mpr ⟨lw_p15, fun _ h => absurd h List.not_mem_nil⟩⟩⟩⟩⟩⟩⟩⟩⟩⟩⟩⟩⟩⟩⟩⟩
theorem lw_p16 : lw_okq (⟨"FutexKernel", "blockedByOneOf", "(I)I"⟩, 6) := ⟨⟨by decide +kernel, by decide +kernel⟩, List.mem_of_getElem? (i := 13) (by decide +kernel), List.mem_of_getElem? (i := 405) (by decide +kernel), List.mem_of_getElem? (i := 406) (by decide +kernel)⟩
theorem lw_p17 : lw_okq (⟨"FutexKernel", "countAheadAtAddress", "(LFutexKernel$Task;)I"⟩, 6) := ⟨⟨by decide +kernel, by decide +kernel⟩, List.mem_of_getElem? (i := 13) (by decide +kernel), List.mem_of_getElem? (i := 506) (by decide +kernel), List.mem_of_getElem? (i := 507) (by decide +kernel)⟩
theorem lw_p18 : lw_okq (⟨"FutexKernel", "countAheadInBucket", "(LFutexKernel$Task;)I"⟩, 6) := ⟨⟨by decide +kernel, by decide +kernel⟩, List.mem_of_getElem? (i := 13) (by decide +kernel), List.mem_of_getElem? (i := 521) (by decide +kernel), List.mem_of_getElem? (i := 522) (by decide +kernel)⟩
theorem lw_p19 : lw_okq (⟨"FutexKernelModel", "asksRunning", "(IIZI)Z"⟩, 17) := ⟨⟨by decide +kernel, by decide +kernel⟩, List.mem_of_getElem? (i := 525) (by decide +kernel), List.mem_of_getElem? (i := 591) (by decide +kernel), List.mem_of_getElem? (i := 592) (by decide +kernel)⟩
theorem lw_p20 : lw_okq (⟨"FutexKernelModel", "asks", "(Z)Z"⟩, 17) := ⟨⟨by decide +kernel, by decide +kernel⟩, List.mem_of_getElem? (i := 525) (by decide +kernel), List.mem_of_getElem? (i := 613) (by decide +kernel), List.mem_of_getElem? (i := 614) (by decide +kernel)⟩
theorem lw_p21 : lw_okq (⟨"FutexKernelModel", "waits", "(IIIII)V"⟩, 17) := ⟨⟨by decide +kernel, by decide +kernel⟩, List.mem_of_getElem? (i := 525) (by decide +kernel), List.mem_of_getElem? (i := 627) (by decide +kernel), List.mem_of_getElem? (i := 628) (by decide +kernel)⟩
theorem lw_p22 : lw_okq (⟨"FutexKernelModel", "joins", "(II)V"⟩, 17) := ⟨⟨by decide +kernel, by decide +kernel⟩, List.mem_of_getElem? (i := 525) (by decide +kernel), List.mem_of_getElem? (i := 631) (by decide +kernel), List.mem_of_getElem? (i := 632) (by decide +kernel)⟩
theorem lw_p23 : lw_okq (⟨"FutexKernelModel", "wakes", "(III)I"⟩, 17) := ⟨⟨by decide +kernel, by decide +kernel⟩, List.mem_of_getElem? (i := 525) (by decide +kernel), List.mem_of_getElem? (i := 639) (by decide +kernel), List.mem_of_getElem? (i := 640) (by decide +kernel)⟩
theorem lw_p24 : lw_okq (⟨"FutexKernelModel", "first", "(III)I"⟩, 17) := ⟨⟨by decide +kernel, by decide +kernel⟩, List.mem_of_getElem? (i := 525) (by decide +kernel), List.mem_of_getElem? (i := 643) (by decide +kernel), List.mem_of_getElem? (i := 644) (by decide +kernel)⟩
theorem lw_p25 : lw_okq (⟨"FutexKernelModel", "key", "(I)J"⟩, 17) := ⟨⟨by decide +kernel, by decide +kernel⟩, List.mem_of_getElem? (i := 525) (by decide +kernel), List.mem_of_getElem? (i := 647) (by decide +kernel), List.mem_of_getElem? (i := 648) (by decide +kernel)⟩
theorem lw_p26 : lw_okq (⟨"FutexKernelModel", "ends", "(II)V"⟩, 17) := ⟨⟨by decide +kernel, by decide +kernel⟩, List.mem_of_getElem? (i := 525) (by decide +kernel), List.mem_of_getElem? (i := 652) (by decide +kernel), List.mem_of_getElem? (i := 653) (by decide +kernel)⟩
theorem lw_p27 : lw_okq (⟨"FutexKernelModel", "leaves", "(II)V"⟩, 17) := ⟨⟨by decide +kernel, by decide +kernel⟩, List.mem_of_getElem? (i := 525) (by decide +kernel), List.mem_of_getElem? (i := 656) (by decide +kernel), List.mem_of_getElem? (i := 657) (by decide +kernel)⟩
theorem lw_p28 : lw_okq (⟨"FutexKernelModel", "isSomebodyLocking", "(I)Z"⟩, 17) := ⟨⟨by decide +kernel, by decide +kernel⟩, List.mem_of_getElem? (i := 525) (by decide +kernel), List.mem_of_getElem? (i := 660) (by decide +kernel), List.mem_of_getElem? (i := 661) (by decide +kernel)⟩
theorem lw_p29 : lw_okq (⟨"FutexKernelModel", "fails", "(I)I"⟩, 17) := ⟨⟨by decide +kernel, by decide +kernel⟩, List.mem_of_getElem? (i := 525) (by decide +kernel), List.mem_of_getElem? (i := 669) (by decide +kernel), List.mem_of_getElem? (i := 670) (by decide +kernel)⟩
theorem lw_p30 : lw_okq (⟨"FutexKernelModel", "gets", "(II)V"⟩, 17) := ⟨⟨by decide +kernel, by decide +kernel⟩, List.mem_of_getElem? (i := 525) (by decide +kernel), List.mem_of_getElem? (i := 682) (by decide +kernel), List.mem_of_getElem? (i := 683) (by decide +kernel)⟩
theorem lw_p31 : lw_okq (⟨"FutexKernelModel", "place", "(II)I"⟩, 17) := ⟨⟨by decide +kernel, by decide +kernel⟩, List.mem_of_getElem? (i := 525) (by decide +kernel), List.mem_of_getElem? (i := 686) (by decide +kernel), List.mem_of_getElem? (i := 687) (by decide +kernel)⟩
def lw_privs_2 : List (MethodName × Nat) := [(⟨"FutexKernel", "blockedByOneOf", "(I)I"⟩, 6), (⟨"FutexKernel", "countAheadAtAddress", "(LFutexKernel$Task;)I"⟩, 6), (⟨"FutexKernel", "countAheadInBucket", "(LFutexKernel$Task;)I"⟩, 6), (⟨"FutexKernelModel", "asksRunning", "(IIZI)Z"⟩, 17), (⟨"FutexKernelModel", "asks", "(Z)Z"⟩, 17), (⟨"FutexKernelModel", "waits", "(IIIII)V"⟩, 17), (⟨"FutexKernelModel", "joins", "(II)V"⟩, 17), (⟨"FutexKernelModel", "wakes", "(III)I"⟩, 17), (⟨"FutexKernelModel", "first", "(III)I"⟩, 17), (⟨"FutexKernelModel", "key", "(I)J"⟩, 17), (⟨"FutexKernelModel", "ends", "(II)V"⟩, 17), (⟨"FutexKernelModel", "leaves", "(II)V"⟩, 17), (⟨"FutexKernelModel", "isSomebodyLocking", "(I)Z"⟩, 17), (⟨"FutexKernelModel", "fails", "(I)I"⟩, 17), (⟨"FutexKernelModel", "gets", "(II)V"⟩, 17), (⟨"FutexKernelModel", "place", "(II)I"⟩, 17)]
theorem lw_r2 : ∀ q ∈ lw_privs_2, lw_okq q := List.forall_mem_cons.mpr ⟨lw_p16, List.forall_mem_cons.mpr ⟨lw_p17, List.forall_mem_cons.mpr ⟨lw_p18, List.forall_mem_cons.mpr ⟨lw_p19, List.forall_mem_cons.mpr ⟨lw_p20, List.forall_mem_cons.mpr ⟨lw_p21, List.forall_mem_cons.mpr ⟨lw_p22, List.forall_mem_cons.mpr ⟨lw_p23, List.forall_mem_cons.mpr ⟨lw_p24, List.forall_mem_cons.mpr ⟨lw_p25, List.forall_mem_cons.mpr ⟨lw_p26, List.forall_mem_cons.mpr ⟨lw_p27, List.forall_mem_cons.mpr ⟨lw_p28, List.forall_mem_cons.mpr ⟨lw_p29, List.forall_mem_cons.mpr ⟨lw_p30, List.forall_mem_cons.mpr ⟨lw_p31, fun _ h => absurd h List.not_mem_nil⟩⟩⟩⟩⟩⟩⟩⟩⟩⟩⟩⟩⟩⟩⟩⟩
theorem lw_p32 : lw_okq (⟨"FutexKernelModel", "isDeadlock", "(II)Z"⟩, 17) := ⟨⟨by decide +kernel, by decide +kernel⟩, List.mem_of_getElem? (i := 525) (by decide +kernel), List.mem_of_getElem? (i := 690) (by decide +kernel), List.mem_of_getElem? (i := 691) (by decide +kernel)⟩
theorem lw_p33 : lw_okq (⟨"FutexKernelModel", "drops", "(II)V"⟩, 17) := ⟨⟨by decide +kernel, by decide +kernel⟩, List.mem_of_getElem? (i := 525) (by decide +kernel), List.mem_of_getElem? (i := 698) (by decide +kernel), List.mem_of_getElem? (i := 699) (by decide +kernel)⟩
theorem lw_p34 : lw_okq (⟨"FutexKernelModel", "passes", "(IZ)I"⟩, 17) := ⟨⟨by decide +kernel, by decide +kernel⟩, List.mem_of_getElem? (i := 525) (by decide +kernel), List.mem_of_getElem? (i := 702) (by decide +kernel), List.mem_of_getElem? (i := 703) (by decide +kernel)⟩
theorem lw_p35 : lw_okq (⟨"FutexKernelModel", "isQueued", "(I)Z"⟩, 17) := ⟨⟨by decide +kernel, by decide +kernel⟩, List.mem_of_getElem? (i := 525) (by decide +kernel), List.mem_of_getElem? (i := 722) (by decide +kernel), List.mem_of_getElem? (i := 723) (by decide +kernel)⟩
theorem lw_p36 : lw_okq (⟨"FutexKernelModel", "due", "()I"⟩, 17) := ⟨⟨by decide +kernel, by decide +kernel⟩, List.mem_of_getElem? (i := 525) (by decide +kernel), List.mem_of_getElem? (i := 742) (by decide +kernel), List.mem_of_getElem? (i := 743) (by decide +kernel)⟩
theorem lw_p37 : lw_okq (⟨"FutexKernelModel", "countAt", "(I)I"⟩, 17) := ⟨⟨by decide +kernel, by decide +kernel⟩, List.mem_of_getElem? (i := 525) (by decide +kernel), List.mem_of_getElem? (i := 774) (by decide +kernel), List.mem_of_getElem? (i := 775) (by decide +kernel)⟩
theorem lw_p38 : lw_okq (⟨"FutexKernelModel", "thread", "(III)I"⟩, 17) := ⟨⟨by decide +kernel, by decide +kernel⟩, List.mem_of_getElem? (i := 525) (by decide +kernel), List.mem_of_getElem? (i := 785) (by decide +kernel), List.mem_of_getElem? (i := 786) (by decide +kernel)⟩
theorem lw_p39 : lw_okq (⟨"FutexKernelModel", "isIn", "(III)Z"⟩, 17) := ⟨⟨by decide +kernel, by decide +kernel⟩, List.mem_of_getElem? (i := 525) (by decide +kernel), List.mem_of_getElem? (i := 789) (by decide +kernel), List.mem_of_getElem? (i := 790) (by decide +kernel)⟩
def lw_privs_3 : List (MethodName × Nat) := [(⟨"FutexKernelModel", "isDeadlock", "(II)Z"⟩, 17), (⟨"FutexKernelModel", "drops", "(II)V"⟩, 17), (⟨"FutexKernelModel", "passes", "(IZ)I"⟩, 17), (⟨"FutexKernelModel", "isQueued", "(I)Z"⟩, 17), (⟨"FutexKernelModel", "due", "()I"⟩, 17), (⟨"FutexKernelModel", "countAt", "(I)I"⟩, 17), (⟨"FutexKernelModel", "thread", "(III)I"⟩, 17), (⟨"FutexKernelModel", "isIn", "(III)Z"⟩, 17)]
theorem lw_r3 : ∀ q ∈ lw_privs_3, lw_okq q := List.forall_mem_cons.mpr ⟨lw_p32, List.forall_mem_cons.mpr ⟨lw_p33, List.forall_mem_cons.mpr ⟨lw_p34, List.forall_mem_cons.mpr ⟨lw_p35, List.forall_mem_cons.mpr ⟨lw_p36, List.forall_mem_cons.mpr ⟨lw_p37, List.forall_mem_cons.mpr ⟨lw_p38, List.forall_mem_cons.mpr ⟨lw_p39, fun _ h => absurd h List.not_mem_nil⟩⟩⟩⟩⟩⟩⟩⟩
def lw_privs : List (MethodName × Nat) := lw_privs_1 ++ (lw_privs_2 ++ (lw_privs_3))
def lw_tbl : List Cond := k2_sels lw_privs ++ tables_1
theorem lw_privs_ok : ∀ q ∈ lw_privs, lw_okq q := by
  show ∀ q ∈ lw_privs_1 ++ (lw_privs_2 ++ (lw_privs_3)), lw_okq q
  exact List.forall_mem_append.mpr ⟨lw_r1, List.forall_mem_append.mpr ⟨lw_r2, lw_r3⟩⟩
end
section
/-! ===== BEGIN words of one list among another's, by their places ===== -/
theorem goodIn_r {big : List Cond} (ws : List Cond) (ps : List Nat) (hp : ws = ps.filterMap (fun i => big[i]?)) (h : ws.all goodWord = true) : GoodIn big ws := by
  intro w hw
  have h1 := List.all_eq_true.mp h w hw
  rw [hp] at hw
  obtain ⟨i, -, hi⟩ := List.mem_filterMap.mp hw
  have hm : w ∈ big := by first | exact List.mem_of_getElem? hi | exact List.getElem?_mem hi
  exact ⟨hm, good_of_word h1⟩
theorem goodIn_app {big a b : List Cond} (ha : GoodIn big a) (hb : GoodIn big b) : GoodIn big (a ++ b) := fun w h => (List.mem_append.mp h).elim (ha w) (hb w)
theorem goodIn_ca {big a b : List Cond} {c : Cond} (ha : GoodIn big (c :: a)) (hb : GoodIn big b) : GoodIn big (c :: (a ++ b)) := fun w h => (List.mem_cons.mp h).elim (fun e => ha w (List.mem_cons.mpr (Or.inl e))) (fun h => (List.mem_append.mp h).elim (fun h => ha w (List.mem_cons.mpr (Or.inr h))) (hb w))
theorem goodIn_sub {big ws : List Cond} (hm : ∀ w ∈ ws, w ∈ big) (h : ws.all goodWord = true) : GoodIn big ws := fun w hw => ⟨hm w hw, good_of_word (List.all_eq_true.mp h w hw)⟩
/-! ===== END ===== -/

/-! ===== BEGIN exceptions that leave a method, and their catching by the caller (launches without stack traces) ===== -/
section VXA
/-! The laws vx_back, vx_callV, vx_callS, vx_callSW, vx_throw0, vx_throwS follow proofs of the library, with one case more: JvmDerived/Free/Laws.lean (Back.of_free), Shelf42/LK1.lean (callV, callS), Shelf/KitTraced.lean (throwNew0V, throwNewS). -/
/-- where a method has thrown q: the class by its name, the cell, what was written, the world -/
def vx_T (XC : String → State → State → Prop) (st : State) (q : Addr) (t : State) (mc ms : Nat) (free : Addr → Prop) : Prop :=
  ∃ (E : String) (ce : Cell) (L : List Loc), XC E st t ∧ t.heap[q]? = some ce ∧ ce.vm = .none ∧ st.vm.findClass E = some ce.cls ∧ st.WarmedH t.vm ∧ st.sameButNew ({ t with vm := st.vm } : State) L mc ms ∧ ∀ z ∈ L, free z.base
def vx_Q (Qc : Array Value → State → Outcome → State → Prop) (XC : String → State → State → Prop) (mc ms : Nat) (free : Addr → Prop) : Array Value → State → Outcome → State → Prop := fun a st o t =>
  (Qc a st o t ∧ ∃ L, FrameEnd st o t L mc ms ∧ ∀ q ∈ L, free q.base) ∨ ∃ q, o = .threw q ∧ vx_T XC st q t mc ms free
/-- a callee that returns or throws -/
def vx_Met (l : Launch) (y : MethodName) (ws : List Cond) (rm : Room) (Pc : Array Value → State → Prop) (Qc : Array Value → State → Outcome → State → Prop) (XC : String → State → State → Prop) (mc ms : Nat) (free : Addr → Prop) : Prop :=
  MetFree l y (headSpec ws rm) Pc (fun _ _ _ _ _ => True) (vx_Q Qc XC mc ms free)
def vx_Post (XC : String → State → State → Prop) (mc ms : Nat) (free : Addr → Prop) : Pt → Array Value → Addr → Pt → Prop := fun A a q B =>
  ∃ (g : JFrame) (mk : MethodId) (t : State) (L : List Loc) (E : String) (ce : Cell), B.U.heap = t.heap ∧ B.U.vm = t.vm ∧ XC E (A.U.calling g mk a) t ∧ t.heap[q]? = some ce ∧ ce.vm = .none ∧ A.U.vm.findClass E = some ce.cls ∧ B.locs = A.locs ++ L ∧ (∀ z ∈ L, free z.base) ∧ B.cells = A.cells + mc ∧ B.slots = A.slots + ms
def vx_Back (l : Launch) (R : Room) (p : Program) (e : Env) (below : List Frame) (s : State) (sargs : Array Value) (y : MethodName) (len W9 : Nat)
    (Pre : Pt → Array Value → Prop) (Post : Pt → Array Value → Option Value → Pt → Prop) (PostX : Pt → Array Value → Addr → Pt → Prop) : Prop :=
  ∀ (m : MethodId) (meth : Method) (c : Code) (A : Pt) (g : JFrame) (ig : Instr) (mk : MethodId) (a : Array Value),
    Stand p l e R s m sargs below meth c A.U A.locs A.cells A.slots → g.method = m → g.locals.size = c.maxLocals → decode c.code g.pc = .ok (ig, len) →
    2 * g.monitorRoom + (g.stack.map fun v => v.category).sum ≤ W9 → A.U.methodNamed? y = some mk → Pre A a →
    (∃ (v : Option Value) (B : Pt), Stand p l e R s m sargs below meth c B.U B.locs B.cells B.slots ∧ Post A a v B ∧
      Steps p.tables e below (doInvoke e (A.U.setTop g) [] mk a).1 (B.U.setTop { g with pc := g.pc + len, stack := v.toList ++ g.stack })) ∨
    (∃ (q : Addr) (B : Pt), Stand p l e R s m sargs below meth c B.U B.locs B.cells B.slots ∧ PostX A a q B ∧
      Steps p.tables e below (doInvoke e (A.U.setTop g) [] mk a).1 ((B.U.setTop g).pushFrame (.throwing q)))
section Payer
variable {l : Launch} {R : Room} {p : Program} {e : Env} {below : List Frame} {s : State} {sargs : Array Value} {y : MethodName} {len W9 : Nat}
theorem vx_back {ws : List Cond} {rm : Room} {Pc : Array Value → State → Prop} {Qc : Array Value → State → Outcome → State → Prop} {XC : String → State → State → Prop} {mc ms : Nat} {free : Addr → Prop} {bytes : ByteArray} {maxL : Nat} {ret : Option FieldType}
    (hM : vx_Met l y ws rm Pc Qc XC mc ms free) (hblind : FrameBlind Pc) (hrc : rm.cells = mc) (hrs : rm.slots = ms)
    (hframes : rm.frames + 1 ≤ R.frames) (hlocals : W9 + (maxL + 11) + rm.locals ≤ R.locals)
    (hws : ∀ w ∈ ws, ∀ a' U, s.WarmedH U.vm → w.before a' U = true) (hcode : Cond.code y bytes maxL ret ∈ ws) (hinit : ∀ a' U, s.WarmedH U.vm → (Cond.initialized y.cls).before a' U = true) :
    vx_Back l R p e below s sargs y len W9 (PreOf R mc ms Pc) (PostOf Qc mc ms free) (vx_Post XC mc ms free) := by
  intro m meth c A g ig mk a X hg hsize hdg hW hn hp
  have h1 : (headSpec ws rm).pre.before a A.U = true := atoms_intro fun w hw => hws w hw _ _ X.warmed
  have h2 : (Cond.code y bytes maxL ret).before a A.U = true := hws _ hcode _ _ X.warmed
  have h3 : (Cond.initialized y.cls).before a A.U = true := hinit _ _ X.warmed
  have h4 : A.cells + (headSpec ws rm).room.cells ≤ R.cells := by rw [show (headSpec ws rm).room.cells = mc from hrc]; exact hp.1
  have h5 : A.slots + (headSpec ws rm).room.slots ≤ R.slots := by rw [show (headSpec ws rm).room.slots = ms from hrs]; exact hp.2.1
  have hPc : Pc a (A.U.calling g mk a) := hblind _ _ _ _ hp.2.2
  obtain ⟨U, Ls, c0, s0⟩ := A
  dsimp only [Pt.U, Pt.locs, Pt.cells, Pt.slots] at h1 h2 h3 h4 h5 X hn hPc ⊢
  obtain ⟨methY, cY, hmY, hcY, -, hlY, -, -, -, -⟩ := Cond.code_spec hn h2
  obtain ⟨kY, hkY, -⟩ := className_of_methodNamed hn
  have hinitY : kY.init = .initialized := Cond.initialized_spec (findClass_of_methodNamed hn) hkY h3
  have h : At U g.method c below := by rw [hg]; exact X.here
  have hlocals9 : W9 + (maxL + 11) + (headSpec ws rm).room.locals ≤ R.locals := hlocals
  have happ : (headSpec ws rm).appliesLoose y e.platform (U.calling g mk a) = true :=
    Spec.appliesLoose_calling (g := g) h hdg hn hkY hinitY
      (X.room_calling (g := g) (R' := (headSpec ws rm).room) hsize hmY hcY hframes (by rw [hlY]; omega) h4 h5) h1
  obtain ⟨mid, hmid⟩ := h.above
  have hfr : (U.setTop g).frames = (.java g :: mid) ++ below := by rw [State.frames_setTop' g h.top, hmid]; rfl
  obtain ⟨o, s₂, hsteps, -, hend, hq⟩ := Steps.callFree hM p X.admits X.cas X.clock (acts := []) hfr happ hPc trivial
  have hq' : vx_Q Qc XC mc ms free a (U.calling g mk a) o s₂ := hq
  rw [State.frames_setTop' g h.top] at hend
  obtain ⟨g₀, hg0⟩ := Option.isSome_iff_exists.mp h.top
  obtain ⟨r, hr⟩ := State.topJava?_eq_some.mp hg0
  have hr' : (({ U with heap := s₂.heap, slotsUsed := s₂.slotsUsed } : State).setVm s₂.vm).frames = .java g₀ :: r := hr
  rcases hq' with ⟨hqc, L, hfe, hL⟩ | ⟨q, rfl, E, ce, L, hx, hce, hcv, hcl, hW₂, hsm, hL⟩
  · obtain ⟨⟨v, rfl⟩, hW₂, e2, q2, q3, q4, q5, q6⟩ := id hfe
    have e3 : s₂ = ({ (U.calling g mk a).setFrames s₂.frames with heap := s₂.heap, slotsUsed := s₂.slotsUsed } : State).setVm s₂.vm := by
      have : s₂ = ({ s₂ with vm := (U.calling g mk a).vm } : State).setVm s₂.vm := rfl
      rw [e2] at this
      exact this
    obtain ⟨c₂, i₂, len₂, hc₂, hd₂, hf₂⟩ := hend
    have hW' : U.WarmedH s₂.vm := hW₂
    have hcc : c₂ = c := by
      have h1 : s₂.code? g.method = U.code? g.method := by
        rw [State.code?_eq, State.code?_eq, hW'.alike.method?]
      exact Option.some.inj (hc₂.symm.trans (h1.trans h.code))
    subst hcc
    have hlen : len₂ = len := by rw [hdg] at hd₂; cases hd₂; rfl
    subst hlen
    have hs₂ : s₂ = (({ U with heap := s₂.heap, slotsUsed := s₂.slotsUsed } : State).setVm s₂.vm).setTop { g with pc := g.pc + len₂, stack := v.toList ++ g.stack } := by
      refine e3.trans ?_
      rw [hf₂, State.calling_eq h.top, State.setFrames_setFrames, State.setTop_of_frames _ hr', hr]
      rfl
    have hsame : U.sameButNew ({ U with heap := s₂.heap, slotsUsed := s₂.slotsUsed } : State) L mc ms := by
      refine ⟨?_, q2, q3, q4, q5, q6⟩
      obtain ⟨t, ht, -⟩ := State.frames_cons hr
      show ({ U with heap := s₂.heap, slotsUsed := s₂.slotsUsed } : State) = { U.setFrames U.frames with heap := s₂.heap, slotsUsed := s₂.slotsUsed }
      rw [State.setFrames_self ht]
    subst hg
    refine Or.inl ⟨v, ⟨(({ U with heap := s₂.heap, slotsUsed := s₂.slotsUsed } : State).setVm s₂.vm), Ls ++ L, c0 + mc, s0 + ms⟩,
      ⟨X.admits, X.cas, X.clock, X.frames, X.room, X.hears, X.method, X.code, (X.here.setHeapUsed s₂.heap s₂.slotsUsed).setVm hW'.alike, X.tail, State.WarmedH.trans X.warmed hW', X.limits, X.bytes, X.same.trans (hsame.setVm s.vm)⟩,
      ⟨g, mk, s₂, L, rfl, rfl, hqc, rfl, hL, rfl, rfl⟩, ?_⟩
    show Steps p.tables e below _ ((({ U with heap := s₂.heap, slotsUsed := s₂.slotsUsed } : State).setVm s₂.vm).setTop { g with pc := g.pc + len₂, stack := v.toList ++ g.stack })
    rw [← hs₂]
    exact hsteps
  · obtain ⟨e2, q2, q3, q4, q5, q6⟩ := id hsm
    have e3 : s₂ = ({ (U.calling g mk a).setFrames s₂.frames with heap := s₂.heap, slotsUsed := s₂.slotsUsed } : State).setVm s₂.vm := by
      have : s₂ = ({ s₂ with vm := (U.calling g mk a).vm } : State).setVm s₂.vm := rfl
      rw [e2] at this
      exact this
    have hf₂ : s₂.frames = .throwing q :: .java g :: U.frames.tail := hend
    have hW' : U.WarmedH s₂.vm := hW₂
    have hs₂ : s₂ = ((({ U with heap := s₂.heap, slotsUsed := s₂.slotsUsed } : State).setVm s₂.vm).setTop g).pushFrame (.throwing q) := by
      refine e3.trans ?_
      rw [hf₂, State.calling_eq h.top, State.setFrames_setFrames, State.pushFrame, State.frames_setTop _ hr', State.setTop_of_frames _ hr', State.setFrames_setFrames, hr]
      rfl
    have hsame : U.sameButNew ({ U with heap := s₂.heap, slotsUsed := s₂.slotsUsed } : State) L mc ms := by
      refine ⟨?_, q2, q3, q4, q5, q6⟩
      obtain ⟨t, ht, -⟩ := State.frames_cons hr
      show ({ U with heap := s₂.heap, slotsUsed := s₂.slotsUsed } : State) = { U.setFrames U.frames with heap := s₂.heap, slotsUsed := s₂.slotsUsed }
      rw [State.setFrames_self ht]
    subst hg
    refine Or.inr ⟨q, ⟨(({ U with heap := s₂.heap, slotsUsed := s₂.slotsUsed } : State).setVm s₂.vm), Ls ++ L, c0 + mc, s0 + ms⟩,
      ⟨X.admits, X.cas, X.clock, X.frames, X.room, X.hears, X.method, X.code, (X.here.setHeapUsed s₂.heap s₂.slotsUsed).setVm hW'.alike, X.tail, State.WarmedH.trans X.warmed hW', X.limits, X.bytes, X.same.trans (hsame.setVm s.vm)⟩,
      ⟨g, mk, s₂, L, E, ce, rfl, rfl, hx, hce, hcv, hcl, rfl, hL, rfl, rfl⟩, ?_⟩
    show Steps p.tables e below _ (((({ U with heap := s₂.heap, slotsUsed := s₂.slotsUsed } : State).setVm s₂.vm).setTop g).pushFrame (.throwing q))
    rw [← hs₂]
    exact hsteps
end Payer
section Calls
variable {p : Program} {l : Launch} {e : Env} {R : Room} {s : State} {m : MethodId} {args : Array Value} {below : List Frame} {meth : Method} {c : Code} {T : State} {locs : List Loc} {cells slots : Nat}
theorem vx_callV (X : Stand p l e R s m args below meth c T locs cells slots) (hexec : p.tables.exec = Jvm.exec) {own C : String} {index : Nat} {y : MethodName} {bytes : ByteArray} {maxL : Nat} {ret : Option FieldType}
    (hown : s.vm.findClass own = some m.cls) (hlink : (Cond.methodLink own index y).before args s = true) (hinst : (Cond.instanceMethod y).before args s = true) (hsel : (Cond.selects C y y).before args s = true)
    (hcode : (Cond.code y bytes maxL ret).before args s = true) (hy : y.cls ≠ "java/lang/invoke/MethodHandle" ∧ y.cls ≠ "java/lang/invoke/VarHandle")
    {W9 : Nat} {Pre : Pt → Array Value → Prop} {Post : Pt → Array Value → Option Value → Pt → Prop} {PostX : Pt → Array Value → Addr → Pt → Prop} (hK : vx_Back l R p e below s args y 3 W9 Pre Post PostX)
    {b : Addr} {cellB : Cell} (hcell : T.heap[b]? = some cellB) (hobj : cellB.vm.isStatics = false) (hcls : s.vm.findClass C = some cellB.cls)
    {g : JFrame} (hg : g.method = m) (hsize : g.locals.size = c.maxLocals) {argsL rest : List Value} (hlen : ∀ sig, parseMethodDescriptor y.desc = some sig → argsL.length = sig.parameters.length)
    (hstack : g.stack = argsL.reverse ++ .ref b :: rest) (hW : 2 * g.monitorRoom + (rest.map fun v => v.category).sum ≤ W9) (hdg : decode c.code g.pc = .ok (.invokevirtual index, 3))
    (hpre : ∀ vm₁, s.WarmedH vm₁ → Pre ⟨T.setVm vm₁, locs, cells, slots⟩ (Value.ref b :: argsL).toArray) :
    (∃ (v : Option Value) (vm₁ : Vm) (B : Pt), s.WarmedH vm₁ ∧ Stand p l e R s m args below meth c B.U B.locs B.cells B.slots ∧ Post ⟨T.setVm vm₁, locs, cells, slots⟩ (Value.ref b :: argsL).toArray v B ∧
      ∀ target, Steps p.tables e below (B.U.setTop { g with pc := g.pc + 3, stack := v.toList ++ rest }) target → Steps p.tables e below (T.setTop g) target) ∨
    (∃ (q : Addr) (vm₁ : Vm) (B : Pt), s.WarmedH vm₁ ∧ Stand p l e R s m args below meth c B.U B.locs B.cells B.slots ∧ PostX ⟨T.setVm vm₁, locs, cells, slots⟩ (Value.ref b :: argsL).toArray q B ∧
      Steps p.tables e below (T.setTop g) ((B.U.setTop { g with stack := rest }).pushFrame (.throwing q))) := by
  obtain ⟨mk, methM, hnamed, hmethM, hstM, habM⟩ := Cond.instanceMethod_spec hinst
  obtain ⟨methM', cM, hmethM', -, -, -, -, -, -, hsigM⟩ := Cond.code_spec hnamed hcode
  cases hmethM.symm.trans hmethM'
  obtain ⟨c2, r2, m2, q1, q2, q3, q4, kP, hkP, hkPi⟩ := Cond.selects_spec hsel
  cases hcls.symm.trans q1
  cases (State.methodFound?_of_named hnamed hy).symm.trans q2
  cases hnamed.symm.trans q3
  have hselP : selectMethod e.platform s.vm cellB.cls mk = .method mk := by rw [Launch.admits_selectMethod X.admits]; exact q4
  obtain ⟨vm₁, X₁, hstep₁⟩ := X.invokevirtual hexec hown hlink hnamed hmethM hstM hkP hkPi hy (a := b) (cell := cellB) hcell
    (fun z h => by rw [h] at hobj; cases hobj) hselP hmethM habM hkP hkPi (g := g) hg (argsL := argsL) (rest := rest) (hlen _ hsigM) hstack hdg
  rcases hK m meth c ⟨T.setVm vm₁, locs, cells, slots⟩ { g with stack := rest } (.invokevirtual index) mk (Value.ref b :: argsL).toArray X₁ hg hsize hdg hW (X₁.named hnamed) (hpre vm₁ X₁.warmed) with ⟨v, B, X', hpost, hsteps⟩ | ⟨q, B, X', hpost, hsteps⟩
  · exact Or.inl ⟨v, vm₁, B, X₁.warmed, X', hpost, fun target h => hstep₁ _ fun acts => by rw [doInvoke_state]; exact hsteps.trans h⟩
  · exact Or.inr ⟨q, vm₁, B, X₁.warmed, X', hpost, hstep₁ _ fun acts => by rw [doInvoke_state]; exact hsteps⟩
theorem vx_callS (X : Stand p l e R s m args below meth c T locs cells slots) (hexec : p.tables.exec = Jvm.exec) {own : String} {index : Nat} {y : MethodName} {bytes : ByteArray} {maxL : Nat} {ret : Option FieldType}
    (hown : s.vm.findClass own = some m.cls) (hlink : (Cond.methodLink own index y).before args s = true) (hstat : (Cond.static y).before args s = true) (hinit : (Cond.initialized y.cls).before args s = true)
    (hcode : (Cond.code y bytes maxL ret).before args s = true) (hy : y.cls ≠ "java/lang/invoke/MethodHandle" ∧ y.cls ≠ "java/lang/invoke/VarHandle")
    {W9 : Nat} {Pre : Pt → Array Value → Prop} {Post : Pt → Array Value → Option Value → Pt → Prop} {PostX : Pt → Array Value → Addr → Pt → Prop} (hK : vx_Back l R p e below s args y 3 W9 Pre Post PostX)
    {g : JFrame} (hg : g.method = m) (hsize : g.locals.size = c.maxLocals) {argsL rest : List Value} (hlen : ∀ sig, parseMethodDescriptor y.desc = some sig → argsL.length = sig.parameters.length)
    (hstack : g.stack = argsL.reverse ++ rest) (hW : 2 * g.monitorRoom + (rest.map fun v => v.category).sum ≤ W9) (hdg : decode c.code g.pc = .ok (.invokestatic index, 3))
    (hpre : ∀ vm₁, s.WarmedH vm₁ → Pre ⟨T.setVm vm₁, locs, cells, slots⟩ argsL.toArray) :
    (∃ (v : Option Value) (vm₁ : Vm) (B : Pt), s.WarmedH vm₁ ∧ Stand p l e R s m args below meth c B.U B.locs B.cells B.slots ∧ Post ⟨T.setVm vm₁, locs, cells, slots⟩ argsL.toArray v B ∧
      ∀ target, Steps p.tables e below (B.U.setTop { g with pc := g.pc + 3, stack := v.toList ++ rest }) target → Steps p.tables e below (T.setTop g) target) ∨
    (∃ (q : Addr) (vm₁ : Vm) (B : Pt), s.WarmedH vm₁ ∧ Stand p l e R s m args below meth c B.U B.locs B.cells B.slots ∧ PostX ⟨T.setVm vm₁, locs, cells, slots⟩ argsL.toArray q B ∧
      Steps p.tables e below (T.setTop g) ((B.U.setTop { g with stack := rest }).pushFrame (.throwing q))) := by
  obtain ⟨mk, hnamed⟩ := Cond.code_named hcode
  obtain ⟨methM, cM, hmethM, -, -, -, -, -, -, hsigM⟩ := Cond.code_spec hnamed hcode
  have hstatic : methM.isStatic = true := Cond.static_spec hnamed hmethM hstat
  obtain ⟨kP, hkP, -⟩ := className_of_methodNamed hnamed
  have hinitP : kP.init = .initialized := Cond.initialized_spec (findClass_of_methodNamed hnamed) hkP hinit
  obtain ⟨vm₁, X₁, hstep₁⟩ := X.invokestatic hexec hown hlink hnamed hmethM hstatic hkP hinitP hy (g := g) hg (argsL := argsL) (rest := rest) (hlen _ hsigM) hstack hdg
  rcases hK m meth c ⟨T.setVm vm₁, locs, cells, slots⟩ { g with stack := rest } (.invokestatic index) mk argsL.toArray X₁ hg hsize hdg hW (X₁.named hnamed) (hpre vm₁ X₁.warmed) with ⟨v, B, X', hpost, hsteps⟩ | ⟨q, B, X', hpost, hsteps⟩
  · exact Or.inl ⟨v, vm₁, B, X₁.warmed, X', hpost, fun target h => hstep₁ _ fun acts => by rw [doInvoke_state]; exact hsteps.trans h⟩
  · exact Or.inr ⟨q, vm₁, B, X₁.warmed, X', hpost, hstep₁ _ fun acts => by rw [doInvoke_state]; exact hsteps⟩
end Calls
theorem vx_cls {s : State} {T : State} {vm₁ : Vm} {E : String} {k : ClassId} (hW : s.WarmedH vm₁) (h : (T.setVm vm₁).vm.findClass E = some k) : s.vm.findClass E = some k := by
  have h1 : vm₁.findClass E = some k := h
  rw [hW.alike.findClass] at h1
  exact h1
/-- the method's frame g, with q thrown over it -/
def vx_W (p : Program) (l : Launch) (e : Env) (R : Room) (s : State) (m : MethodId) (args : Array Value) (below : List Frame) (meth : Method) (c : Code) (H : Heap) (locs : List Loc) (cells slots : Nat) (Q : State → Prop) (g : JFrame) (q : Addr) : Prop :=
  ∀ T : State, T.heap = H → Stand p l e R s m args below meth c T locs cells slots → ∃ t, Steps p.tables e below ((T.setTop g).pushFrame (.throwing q)) t ∧ Q t
def vx_Run (p : Program) (l : Launch) (e : Env) (R : Room) (s : State) (m : MethodId) (args : Array Value) (below : List Frame) (meth : Method) (c : Code) (H : Heap) (locs : List Loc) (cells slots mc ms : Nat) (g : JFrame) (rest : List Value) (Qa : State → Outcome → State → Prop) (XC : String → State → State → Prop) (free : Addr → Prop) : Prop :=
  ∀ T : State, T.heap = H → Stand p l e R s m args below meth c T locs cells slots →
    (∃ (v : Option Value) (st₀ t T' : State) (L : List Loc), st₀.heap = H ∧ Stand p l e R s m args below meth c T' (locs ++ L) (cells + mc) (slots + ms) ∧ (∀ q ∈ L, free q.base) ∧ T'.heap = t.heap ∧ T'.vm = t.vm ∧ Qa st₀ (.returned v) t ∧
      Goes p e below T g T' { g with pc := g.pc + 3, stack := v.toList ++ rest }) ∨
    (∃ (q : Addr) (st₀ t T' : State) (L : List Loc) (E : String) (ce : Cell), st₀.heap = H ∧ Stand p l e R s m args below meth c T' (locs ++ L) (cells + mc) (slots + ms) ∧ (∀ z ∈ L, free z.base) ∧ T'.heap = t.heap ∧ T'.vm = t.vm ∧ XC E st₀ t ∧ t.heap[q]? = some ce ∧ ce.vm = .none ∧ s.vm.findClass E = some ce.cls ∧
      Steps p.tables e below (T.setTop g) ((T'.setTop { g with stack := rest }).pushFrame (.throwing q)))
def vx_X {S : Type} (px : S → Prop) (B : String → S → State → Prop) (A : Nat → Prop) : String → State → State → Prop := fun E st t => ∃ u : S, px u ∧ B E u t ∧ va_F A st t
section Runs
variable {p : Program} {l : Launch} {e : Env} {R : Room} {s : State} {m : MethodId} {args : Array Value} {below : List Frame} {meth : Method} {c : Code} {H : Heap} {locs : List Loc} {cells slots : Nat}
variable {y : MethodName} {bytes cc : ByteArray} {maxL nL mc ms n index : Nat} {ret : Option FieldType} {ws : List Cond} {rm : Room} {Pc : Array Value → State → Prop} {Qc : Array Value → State → Outcome → State → Prop} {XC : String → State → State → Prop} {free : Addr → Prop} {Ts : List Cond} {own C : String} {b : Addr} {As rest : List Value} {g : JFrame}
theorem vx_callBack (cb : CallB R s args own index y bytes maxL ret ws rm mc ms n) (hM : vx_Met l y ws rm Pc Qc XC mc ms free) (hbl : FrameBlind Pc) : vx_Back l R p e below s args y 3 8 (PreOf R mc ms Pc) (PostOf Qc mc ms free) (vx_Post XC mc ms free) := by
  obtain ⟨hrc, hrs, hfr, hlo, hws, hcw, -, hini, -⟩ := cb
  exact vx_back (bytes := bytes) (maxL := maxL) (ret := ret) hM hbl hrc hrs hfr hlo hws hcw (fun a' U hW => word_at hW (Or.inl (by first | rfl | simp [Cond.onTables, Cond.keeps, Cond.steady])) hini)
theorem vx_runV (S : CallFix p m c cc nL s args Ts own) (hM : vx_Met l y ws rm Pc Qc XC mc ms free) (cw : CallW R s args own C index y bytes maxL ret ws rm mc ms n) (hp : PreV s H C b Pc As)
    (hg : g.method = m) (hn : As.length = n) (hsize : g.locals.size = nL) (hstack : g.stack = As.reverse ++ .ref b :: rest) (hW : 2 * g.monitorRoom + (rest.map fun v => v.category).sum ≤ 8) (hdg : decode cc g.pc = .ok (.invokevirtual index, 3)) (hf : cells + mc ≤ R.cells ∧ slots + ms ≤ R.slots) :
    vx_Run p l e R s m args below meth c H locs cells slots mc ms g rest (Qc (Value.ref b :: As).toArray) XC free := by
  have hK : vx_Back l R p e below s args y 3 8 (PreOf R mc ms Pc) (PostOf Qc mc ms free) (vx_Post XC mc ms free) := vx_callBack cw.1 hM hp.1
  obtain ⟨⟨-, -, -, -, -, -, hcode, -, hy, hlen, hl⟩, hin, hse⟩ := cw
  obtain ⟨hx, hb, hml, ho, -⟩ := S
  obtain ⟨-, ⟨cellB, hcB, hoB, hclB⟩, hPc⟩ := hp
  intro T hT X
  rcases vx_callV X hx (C := C) (bytes := bytes) (maxL := maxL) (ret := ret) ho hl hin hse hcode hy hK (by rw [hT]; exact hcB) hoB hclB hg (hsize.trans hml.symm) (argsL := As) (rest := rest) (fun sig h => hn.trans (hlen sig h)) hstack hW (by rw [hb]; exact hdg)
    (fun vm₁ hW₁ => ⟨hf.1, hf.2, hPc (T.setVm vm₁) hT hW₁⟩) with ⟨v, vm₁, ⟨U', l2, c2, s2⟩, hW₁, X', ⟨g', mk, t, L, e1, e2, hq, h1, hL, h2, h3⟩, st⟩ | ⟨q, vm₁, ⟨U', l2, c2, s2⟩, hW₁, X', ⟨g', mk, t, L, E, ce, e1, e2, hq, hce, hcv, hcl, h1, hL, h2, h3⟩, st⟩
  · dsimp only [Pt.U, Pt.locs, Pt.cells, Pt.slots] at X' e1 e2 h1 h2 h3 st
    subst h1; subst h2; subst h3
    exact Or.inl ⟨v, (T.setVm vm₁).calling g' mk (Value.ref b :: As).toArray, t, U', L, hT, X', hL, e1, e2, hq, st⟩
  · dsimp only [Pt.U, Pt.locs, Pt.cells, Pt.slots] at X' e1 e2 h1 h2 h3 st hcl
    subst h1; subst h2; subst h3
    exact Or.inr ⟨q, (T.setVm vm₁).calling g' mk (Value.ref b :: As).toArray, t, U', L, E, ce, hT, X', hL, e1, e2, hq, hce, hcv, vx_cls hW₁ hcl, st⟩
theorem vx_runS (S : CallFix p m c cc nL s args Ts own) (hM : vx_Met l y ws rm Pc Qc XC mc ms free) (cw : CallB R s args own index y bytes maxL ret ws rm mc ms n ∧ (Cond.static y).before args s = true) (hp : PreS s H Pc As)
    (hg : g.method = m) (hn : As.length = n) (hsize : g.locals.size = nL) (hstack : g.stack = As.reverse ++ rest) (hW : 2 * g.monitorRoom + (rest.map fun v => v.category).sum ≤ 8) (hdg : decode cc g.pc = .ok (.invokestatic index, 3)) (hf : cells + mc ≤ R.cells ∧ slots + ms ≤ R.slots) :
    vx_Run p l e R s m args below meth c H locs cells slots mc ms g rest (Qc As.toArray) XC free := by
  have hK : vx_Back l R p e below s args y 3 8 (PreOf R mc ms Pc) (PostOf Qc mc ms free) (vx_Post XC mc ms free) := vx_callBack cw.1 hM hp.1
  obtain ⟨⟨-, -, -, -, -, -, hcode, hini, hy, hlen, hl⟩, hstt⟩ := cw
  obtain ⟨hx, hb, hml, ho, -⟩ := S
  intro T hT X
  rcases vx_callS X hx (bytes := bytes) (maxL := maxL) (ret := ret) ho hl hstt hini hcode hy hK hg (hsize.trans hml.symm) (argsL := As) (rest := rest) (fun sig h => hn.trans (hlen sig h)) hstack hW (by rw [hb]; exact hdg)
    (fun vm₁ hW₁ => ⟨hf.1, hf.2, hp.2 (T.setVm vm₁) hT hW₁⟩) with ⟨v, vm₁, ⟨U', l2, c2, s2⟩, hW₁, X', ⟨g', mk, t, L, e1, e2, hq, h1, hL, h2, h3⟩, st⟩ | ⟨q, vm₁, ⟨U', l2, c2, s2⟩, hW₁, X', ⟨g', mk, t, L, E, ce, e1, e2, hq, hce, hcv, hcl, h1, hL, h2, h3⟩, st⟩
  · dsimp only [Pt.U, Pt.locs, Pt.cells, Pt.slots] at X' e1 e2 h1 h2 h3 st
    subst h1; subst h2; subst h3
    exact Or.inl ⟨v, (T.setVm vm₁).calling g' mk As.toArray, t, U', L, hT, X', hL, e1, e2, hq, st⟩
  · dsimp only [Pt.U, Pt.locs, Pt.cells, Pt.slots] at X' e1 e2 h1 h2 h3 st hcl
    subst h1; subst h2; subst h3
    exact Or.inr ⟨q, (T.setVm vm₁).calling g' mk As.toArray, t, U', L, E, ce, hT, X', hL, e1, e2, hq, hce, hcv, vx_cls hW₁ hcl, st⟩
end Runs
section Rows
variable {p : Program} {l : Launch} {e : Env} {R : Room} {s : State} {m : MethodId} {args : Array Value} {below : List Frame} {meth : Method} {c : Code} {H : Heap} {locs : List Loc} {cells slots : Nat} {Q : State → Prop}
variable {mc ms : Nat} {free : Addr → Prop} {A0 A1 : Nat → Prop} {H0 : Heap} {a : Array Value} {pc : Nat} {ls : Array Slot} {st0 rest : List Value}
theorem vx_keep {st₀ t T' : State} {L : List Loc} (h0 : st₀.heap = H) (e1 : T'.heap = t.heap) (hS : va_S A0 H0 H locs) (hA : ∀ q, q < H.size → A1 q → A0 q) (hf : ∀ q, free q → A0 q) (hL : ∀ q ∈ L, free q.base) (hF : va_F A1 st₀ t) :
    H.size ≤ T'.heap.size ∧ (∀ q : Nat, q < H.size → ¬ A1 q → T'.heap[q]? = H[q]?) ∧ va_S A0 H0 T'.heap (locs ++ L) := by
  obtain ⟨hz, hk⟩ := hF
  rw [h0] at hz hk
  exact ⟨by rw [e1]; exact hz, fun q h1 h2 => by rw [e1]; exact hk q h1 h2,
    ⟨Nat.le_trans hS.1 (by rw [e1]; exact hz), fun q h1 h2 => by rw [e1, hk q (Nat.lt_of_lt_of_le h1 hS.1) (fun z => h2 (hA q (Nat.lt_of_lt_of_le h1 hS.1) z))]; exact hS.2.1 q h1 h2, fun q hq => by
      rcases List.mem_append.mp hq with h | h
      · exact hS.2.2 q h
      · exact hf _ (hL q h)⟩⟩
theorem vx_calli {S SX : Type} {post : Int32 → S → Prop} {px : SX → Prop} {B : S → State → Prop} {BX : String → SX → State → Prop} {AX : Nat → Prop} (hr : vx_Run p l e R s m args below meth c H locs cells slots mc ms (F0 m pc ls st0) rest (va_Qi post B A1 a) (vx_X px BX AX) free) (hS : va_S A0 H0 H locs) (hA : ∀ q, q < H.size → A1 q → A0 q) (hf : ∀ q, free q → A0 q) (hAX : ∀ q, q < H.size → AX q → A0 q)
    (kx : ∀ (E : String) (ce : Cell) (q9 : Addr) (u : SX) (t : State) (H1 : Heap) (locs1 : List Loc), t.heap = H1 → s.vm.Alike t.vm → px u → BX E u t → H.size ≤ H1.size → (∀ q : Nat, q < H.size → ¬ AX q → H1[q]? = H[q]?) → va_S A0 H0 H1 locs1 → H1[q9]? = some ce → ce.vm = .none → s.vm.findClass E = some ce.cls → vx_W p l e R s m args below meth c H1 locs1 (cells + mc) (slots + ms) Q (F0 m pc ls rest) q9)
    (kk : ∀ (r : Int32) (u : S) (t : State) (H1 : Heap) (locs1 : List Loc), t.heap = H1 → s.vm.Alike t.vm → post r u → B u t → H.size ≤ H1.size → (∀ q : Nat, q < H.size → ¬ A1 q → H1[q]? = H[q]?) → va_S A0 H0 H1 locs1 → W p l e R s m args below meth c H1 locs1 (cells + mc) (slots + ms) Q (F0 m (pc + 3) ls (.int r :: rest))) : W p l e R s m args below meth c H locs cells slots Q (F0 m pc ls st0) := by
  intro T hT X
  rcases hr T hT X with ⟨v, st₀, t, T', L, h0, X', hL, e1, e2, ⟨⟨r, u, hv, hp, hb⟩, hF⟩, st⟩ | ⟨q, st₀, t, T', L, E, ce, h0, X', hL, e1, e2, ⟨u, hp, hb, hF⟩, hce, hcv, hcl, st⟩
  · cases hv
    obtain ⟨k1, k2, k3⟩ := vx_keep h0 e1 hS hA hf hL hF
    obtain ⟨t2, a1, b1⟩ := kk r u t T'.heap (locs ++ L) e1.symm (by rw [← e2]; exact X'.warmed.alike) hp hb k1 k2 k3 T' rfl X'
    exact ⟨t2, st t2 a1, b1⟩
  · obtain ⟨k1, k2, k3⟩ := vx_keep h0 e1 hS hAX hf hL hF
    obtain ⟨t2, a1, b1⟩ := kx E ce q u t T'.heap (locs ++ L) e1.symm (by rw [← e2]; exact X'.warmed.alike) hp hb k1 k2 k3 (by rw [e1]; exact hce) hcv hcl T' rfl X'
    exact ⟨t2, st.trans a1, b1⟩
theorem vx_calll {S SX : Type} {post : Int64 → S → Prop} {px : SX → Prop} {B : S → State → Prop} {BX : String → SX → State → Prop} {AX : Nat → Prop} (hr : vx_Run p l e R s m args below meth c H locs cells slots mc ms (F0 m pc ls st0) rest (va_Ql post B A1 a) (vx_X px BX AX) free) (hS : va_S A0 H0 H locs) (hA : ∀ q, q < H.size → A1 q → A0 q) (hf : ∀ q, free q → A0 q) (hAX : ∀ q, q < H.size → AX q → A0 q)
    (kx : ∀ (E : String) (ce : Cell) (q9 : Addr) (u : SX) (t : State) (H1 : Heap) (locs1 : List Loc), t.heap = H1 → s.vm.Alike t.vm → px u → BX E u t → H.size ≤ H1.size → (∀ q : Nat, q < H.size → ¬ AX q → H1[q]? = H[q]?) → va_S A0 H0 H1 locs1 → H1[q9]? = some ce → ce.vm = .none → s.vm.findClass E = some ce.cls → vx_W p l e R s m args below meth c H1 locs1 (cells + mc) (slots + ms) Q (F0 m pc ls rest) q9)
    (kk : ∀ (r : Int64) (u : S) (t : State) (H1 : Heap) (locs1 : List Loc), t.heap = H1 → s.vm.Alike t.vm → post r u → B u t → H.size ≤ H1.size → (∀ q : Nat, q < H.size → ¬ A1 q → H1[q]? = H[q]?) → va_S A0 H0 H1 locs1 → W p l e R s m args below meth c H1 locs1 (cells + mc) (slots + ms) Q (F0 m (pc + 3) ls (.long r :: rest))) : W p l e R s m args below meth c H locs cells slots Q (F0 m pc ls st0) := by
  intro T hT X
  rcases hr T hT X with ⟨v, st₀, t, T', L, h0, X', hL, e1, e2, ⟨⟨r, u, hv, hp, hb⟩, hF⟩, st⟩ | ⟨q, st₀, t, T', L, E, ce, h0, X', hL, e1, e2, ⟨u, hp, hb, hF⟩, hce, hcv, hcl, st⟩
  · cases hv
    obtain ⟨k1, k2, k3⟩ := vx_keep h0 e1 hS hA hf hL hF
    obtain ⟨t2, a1, b1⟩ := kk r u t T'.heap (locs ++ L) e1.symm (by rw [← e2]; exact X'.warmed.alike) hp hb k1 k2 k3 T' rfl X'
    exact ⟨t2, st t2 a1, b1⟩
  · obtain ⟨k1, k2, k3⟩ := vx_keep h0 e1 hS hAX hf hL hF
    obtain ⟨t2, a1, b1⟩ := kx E ce q u t T'.heap (locs ++ L) e1.symm (by rw [← e2]; exact X'.warmed.alike) hp hb k1 k2 k3 (by rw [e1]; exact hce) hcv hcl T' rfl X'
    exact ⟨t2, st.trans a1, b1⟩
theorem vx_callf {S SX : Type} {post : UInt32 → S → Prop} {px : SX → Prop} {B : S → State → Prop} {BX : String → SX → State → Prop} {AX : Nat → Prop} (hr : vx_Run p l e R s m args below meth c H locs cells slots mc ms (F0 m pc ls st0) rest (va_Qf post B A1 a) (vx_X px BX AX) free) (hS : va_S A0 H0 H locs) (hA : ∀ q, q < H.size → A1 q → A0 q) (hf : ∀ q, free q → A0 q) (hAX : ∀ q, q < H.size → AX q → A0 q)
    (kx : ∀ (E : String) (ce : Cell) (q9 : Addr) (u : SX) (t : State) (H1 : Heap) (locs1 : List Loc), t.heap = H1 → s.vm.Alike t.vm → px u → BX E u t → H.size ≤ H1.size → (∀ q : Nat, q < H.size → ¬ AX q → H1[q]? = H[q]?) → va_S A0 H0 H1 locs1 → H1[q9]? = some ce → ce.vm = .none → s.vm.findClass E = some ce.cls → vx_W p l e R s m args below meth c H1 locs1 (cells + mc) (slots + ms) Q (F0 m pc ls rest) q9)
    (kk : ∀ (r : UInt32) (u : S) (t : State) (H1 : Heap) (locs1 : List Loc), t.heap = H1 → s.vm.Alike t.vm → post r u → B u t → H.size ≤ H1.size → (∀ q : Nat, q < H.size → ¬ A1 q → H1[q]? = H[q]?) → va_S A0 H0 H1 locs1 → W p l e R s m args below meth c H1 locs1 (cells + mc) (slots + ms) Q (F0 m (pc + 3) ls (.float r :: rest))) : W p l e R s m args below meth c H locs cells slots Q (F0 m pc ls st0) := by
  intro T hT X
  rcases hr T hT X with ⟨v, st₀, t, T', L, h0, X', hL, e1, e2, ⟨⟨r, u, hv, hp, hb⟩, hF⟩, st⟩ | ⟨q, st₀, t, T', L, E, ce, h0, X', hL, e1, e2, ⟨u, hp, hb, hF⟩, hce, hcv, hcl, st⟩
  · cases hv
    obtain ⟨k1, k2, k3⟩ := vx_keep h0 e1 hS hA hf hL hF
    obtain ⟨t2, a1, b1⟩ := kk r u t T'.heap (locs ++ L) e1.symm (by rw [← e2]; exact X'.warmed.alike) hp hb k1 k2 k3 T' rfl X'
    exact ⟨t2, st t2 a1, b1⟩
  · obtain ⟨k1, k2, k3⟩ := vx_keep h0 e1 hS hAX hf hL hF
    obtain ⟨t2, a1, b1⟩ := kx E ce q u t T'.heap (locs ++ L) e1.symm (by rw [← e2]; exact X'.warmed.alike) hp hb k1 k2 k3 (by rw [e1]; exact hce) hcv hcl T' rfl X'
    exact ⟨t2, st.trans a1, b1⟩
theorem vx_calld {S SX : Type} {post : UInt64 → S → Prop} {px : SX → Prop} {B : S → State → Prop} {BX : String → SX → State → Prop} {AX : Nat → Prop} (hr : vx_Run p l e R s m args below meth c H locs cells slots mc ms (F0 m pc ls st0) rest (va_Qd post B A1 a) (vx_X px BX AX) free) (hS : va_S A0 H0 H locs) (hA : ∀ q, q < H.size → A1 q → A0 q) (hf : ∀ q, free q → A0 q) (hAX : ∀ q, q < H.size → AX q → A0 q)
    (kx : ∀ (E : String) (ce : Cell) (q9 : Addr) (u : SX) (t : State) (H1 : Heap) (locs1 : List Loc), t.heap = H1 → s.vm.Alike t.vm → px u → BX E u t → H.size ≤ H1.size → (∀ q : Nat, q < H.size → ¬ AX q → H1[q]? = H[q]?) → va_S A0 H0 H1 locs1 → H1[q9]? = some ce → ce.vm = .none → s.vm.findClass E = some ce.cls → vx_W p l e R s m args below meth c H1 locs1 (cells + mc) (slots + ms) Q (F0 m pc ls rest) q9)
    (kk : ∀ (r : UInt64) (u : S) (t : State) (H1 : Heap) (locs1 : List Loc), t.heap = H1 → s.vm.Alike t.vm → post r u → B u t → H.size ≤ H1.size → (∀ q : Nat, q < H.size → ¬ A1 q → H1[q]? = H[q]?) → va_S A0 H0 H1 locs1 → W p l e R s m args below meth c H1 locs1 (cells + mc) (slots + ms) Q (F0 m (pc + 3) ls (.double r :: rest))) : W p l e R s m args below meth c H locs cells slots Q (F0 m pc ls st0) := by
  intro T hT X
  rcases hr T hT X with ⟨v, st₀, t, T', L, h0, X', hL, e1, e2, ⟨⟨r, u, hv, hp, hb⟩, hF⟩, st⟩ | ⟨q, st₀, t, T', L, E, ce, h0, X', hL, e1, e2, ⟨u, hp, hb, hF⟩, hce, hcv, hcl, st⟩
  · cases hv
    obtain ⟨k1, k2, k3⟩ := vx_keep h0 e1 hS hA hf hL hF
    obtain ⟨t2, a1, b1⟩ := kk r u t T'.heap (locs ++ L) e1.symm (by rw [← e2]; exact X'.warmed.alike) hp hb k1 k2 k3 T' rfl X'
    exact ⟨t2, st t2 a1, b1⟩
  · obtain ⟨k1, k2, k3⟩ := vx_keep h0 e1 hS hAX hf hL hF
    obtain ⟨t2, a1, b1⟩ := kx E ce q u t T'.heap (locs ++ L) e1.symm (by rw [← e2]; exact X'.warmed.alike) hp hb k1 k2 k3 (by rw [e1]; exact hce) hcv hcl T' rfl X'
    exact ⟨t2, st.trans a1, b1⟩
theorem vx_callv {S SX : Type} {post : S → Prop} {px : SX → Prop} {B : S → State → Prop} {BX : String → SX → State → Prop} {AX : Nat → Prop} (hr : vx_Run p l e R s m args below meth c H locs cells slots mc ms (F0 m pc ls st0) rest (va_Qv post B A1 a) (vx_X px BX AX) free) (hS : va_S A0 H0 H locs) (hA : ∀ q, q < H.size → A1 q → A0 q) (hf : ∀ q, free q → A0 q) (hAX : ∀ q, q < H.size → AX q → A0 q)
    (kx : ∀ (E : String) (ce : Cell) (q9 : Addr) (u : SX) (t : State) (H1 : Heap) (locs1 : List Loc), t.heap = H1 → s.vm.Alike t.vm → px u → BX E u t → H.size ≤ H1.size → (∀ q : Nat, q < H.size → ¬ AX q → H1[q]? = H[q]?) → va_S A0 H0 H1 locs1 → H1[q9]? = some ce → ce.vm = .none → s.vm.findClass E = some ce.cls → vx_W p l e R s m args below meth c H1 locs1 (cells + mc) (slots + ms) Q (F0 m pc ls rest) q9)
    (kk : ∀ (u : S) (t : State) (H1 : Heap) (locs1 : List Loc), t.heap = H1 → s.vm.Alike t.vm → post u → B u t → H.size ≤ H1.size → (∀ q : Nat, q < H.size → ¬ A1 q → H1[q]? = H[q]?) → va_S A0 H0 H1 locs1 → W p l e R s m args below meth c H1 locs1 (cells + mc) (slots + ms) Q (F0 m (pc + 3) ls (rest))) : W p l e R s m args below meth c H locs cells slots Q (F0 m pc ls st0) := by
  intro T hT X
  rcases hr T hT X with ⟨v, st₀, t, T', L, h0, X', hL, e1, e2, ⟨⟨u, hv, hp, hb⟩, hF⟩, st⟩ | ⟨q, st₀, t, T', L, E, ce, h0, X', hL, e1, e2, ⟨u, hp, hb, hF⟩, hce, hcv, hcl, st⟩
  · cases hv
    obtain ⟨k1, k2, k3⟩ := vx_keep h0 e1 hS hA hf hL hF
    obtain ⟨t2, a1, b1⟩ := kk u t T'.heap (locs ++ L) e1.symm (by rw [← e2]; exact X'.warmed.alike) hp hb k1 k2 k3 T' rfl X'
    exact ⟨t2, st t2 a1, b1⟩
  · obtain ⟨k1, k2, k3⟩ := vx_keep h0 e1 hS hAX hf hL hF
    obtain ⟨t2, a1, b1⟩ := kx E ce q u t T'.heap (locs ++ L) e1.symm (by rw [← e2]; exact X'.warmed.alike) hp hb k1 k2 k3 (by rw [e1]; exact hce) hcv hcl T' rfl X'
    exact ⟨t2, st.trans a1, b1⟩
/-- caught by the row x of this method's table; the rows ahead don't take it -/
theorem vx_catch {own name : String} {E : String} {ce : Cell} {q : Addr} (hown : s.vm.findClass own = some m.cls) (pre : List ExceptionTableEntry) (x : ExceptionTableEntry) (suf : List ExceptionTableEntry) (hsplit : c.exceptionTable.toList = pre ++ x :: suf)
    (hpass : ∀ z ∈ pre, covers z pc = false ∨ (z.catchType ≠ 0 ∧ ∃ nm : String, (Cond.classLink own z.catchType nm).before args s = true ∧ va_Nc E nm s)) (hx : covers x pc = true) (h0 : x.catchType ≠ 0)
    (hlink : (Cond.classLink own x.catchType name).before args s = true) (hcast : (Cond.castable E name).before args s = true) (hcell : H[q]? = some ce) (hv : ce.vm = .none) (hcl : s.vm.findClass E = some ce.cls)
    (kk : W p l e R s m args below meth c H locs cells slots Q (F0 m x.handlerPc ls [.ref q])) : vx_W p l e R s m args below meth c H locs cells slots Q (F0 m pc ls rest) q := by
  intro T hT X
  have hpl : e.platform.magicAccessors = ({} : Platform).magicAccessors := by rw [X.admits.platform]
  obtain ⟨c3, c4, hc3, hc4, hasg⟩ := Cond.castable_spec hcast
  cases Option.some.inj (hc3.symm.trans hcl)
  obtain ⟨c5, hc5, hcl5⟩ := Cond.classLink_spec hown hlink e.platform hpl
  cases Option.some.inj (hc4.symm.trans hc5)
  obtain ⟨vm', X', st⟩ := X.thenCaughtThrough q (g := F0 m pc ls rest) rfl (Steps.refl _) (by rw [hT]; exact hcell) (by rw [hv]; rfl) (by obtain ⟨k9, h9, -⟩ := Vm.findClass_spec hcl; exact ⟨k9, h9⟩) pre x suf hsplit
    (fun z hz => by
      rcases hpass z hz with h | ⟨hz0, nm, hl1, hn1⟩
      · exact Or.inl h
      · obtain ⟨c6, hc6, hcl6⟩ := Cond.classLink_spec hown hl1 e.platform hpl
        obtain ⟨a8, b8, h1, h2, h3⟩ := hn1
        cases Option.some.inj (h1.symm.trans hcl)
        cases Option.some.inj (h2.symm.trans hc6)
        exact Or.inr ⟨hz0, _, hcl6, h3⟩) hx (Or.inr ⟨h0, c4, hcl5, hasg⟩)
  obtain ⟨t, a1, b1⟩ := kk (T.setVm vm') hT X'
  exact ⟨t, st.trans a1, b1⟩
end Rows
section Ends
variable {p : Program} {l : Launch} {e : Env} {R : Room} {s : State} {m : MethodId} {args : Array Value} {below : List Frame} {meth : Method} {c : Code} {H : Heap} {locs : List Loc} {cells slots : Nat} {Q : State → Prop}
variable {mc ms : Nat} {free : Addr → Prop} {A0 A1 : Nat → Prop} {H0 : Heap} {a : Array Value} {ls : Array Slot} {st0 rest : List Value}
variable {Qc : Array Value → State → Outcome → State → Prop} {XC : String → State → State → Prop}
/-- what a body that may throw owes at its end -/
def vx_MQ (below : List Frame) (Qc : Array Value → State → Outcome → State → Prop) (XC : String → State → State → Prop) (a : Array Value) (s : State) (mc ms : Nat) (free : Addr → Prop) : State → Prop := fun t =>
  ∃ o, t.status = .running ∧ Ended t below o ∧ vx_Q Qc XC mc ms free a s o t
theorem vx_ret {g : JFrame} {mc ms : Nat} (k : W p l e R s m args below meth c H locs cells slots (MQ below Qc args s mc ms free) g) : W p l e R s m args below meth c H locs cells slots (vx_MQ below Qc XC args s mc ms free) g := by
  intro T hT X
  obtain ⟨t, a1, o, b1, b2, b3, b4⟩ := k T hT X
  exact ⟨t, a1, o, b1, b2, Or.inl ⟨b3, b4⟩⟩
/-- not caught here: it goes on to the caller -/
theorem vx_widen {g : JFrame} {q : Addr} {k n : Nat} (h1 : cells ≤ k) (h2 : slots ≤ n) (kk : vx_W p l e R s m args below meth c H locs k n Q g q) : vx_W p l e R s m args below meth c H locs cells slots Q g q := fun T hT X => kk T hT (stand_widen X h1 h2)
theorem vx_out {pc : Nat} {E : String} {ce : Cell} {q : Addr} {mc ms : Nat} (hout : ∀ x ∈ c.exceptionTable.toList, covers x pc = false) (hlocks : meth.locks = false) (hcell : H[q]? = some ce) (hv : ce.vm = .none) (hcl : s.vm.findClass E = some ce.cls)
    (hx : ∀ t : State, t.heap = H → s.vm.Alike t.vm → XC E s t) (hf : ∀ z ∈ locs, free z.base) (hc : cells ≤ mc) (hs : slots ≤ ms) :
    vx_W p l e R s m args below meth c H locs cells slots (vx_MQ below Qc XC args s mc ms free) (F0 m pc ls rest) q := by
  intro T hT X
  obtain ⟨st1, hrun, hend, hW, hsm⟩ := X.leaveThrown q (g := F0 m pc ls rest) rfl rfl rfl hout hlocks
  have hcell9 : (T.setFrames (.throwing q :: below)).heap[q]? = some ce := by
    show T.heap[q]? = some ce
    rw [hT]; exact hcell
  exact ⟨_, st1, .threw q, hrun, hend, Or.inr ⟨q, rfl, E, ce, locs, hx _ hT hW.alike, hcell9, hv, hcl, hW, hsm.mono hc hs, hf⟩⟩
theorem vx_frame {U : State} {k n : Nat} (h : s.sameButNew ({ U with vm := s.vm } : State) locs k n) : s.heap.size ≤ U.heap.size ∧ ∀ q : Nat, q < s.heap.size → (∀ z ∈ locs, z.base ≠ q) → U.heap[q]? = s.heap[q]? := by
  obtain ⟨-, h2, -, -, -, h6⟩ := h
  refine ⟨h2, fun q hq hz => ?_⟩
  obtain ⟨c9, e1, e2, e3, e4⟩ := h6 q _ (Array.getElem?_eq_getElem hq)
  have hs : c9.slots = (s.heap[q]).slots := Array.ext_getElem? fun i => e4 i fun hm => hz _ hm rfl
  have h9 : c9 = s.heap[q] := by
    rw [hs] at e2
    exact e2
  have e5 : U.heap[q]? = some c9 := e1
  rw [e5, h9, Array.getElem?_eq_getElem hq]
/-- the words of a throw but the four that speak of the heap -/
def vx_no (w : Cond) : Bool := decide (w ≠ .isRef (.static Bundle.tN "UNASSIGNED_STACK" Bundle.steD)) && decide (w ≠ .isRef (.static Bundle.tN "SUPPRESSED_SENTINEL" Bundle.listD)) && decide (w ≠ .laysStatic Bundle.tN "UNASSIGNED_STACK" Bundle.steD) && decide (w ≠ .laysStatic Bundle.tN "SUPPRESSED_SENTINEL" Bundle.listD)
def vx_at0 (own : String) (ic : Nat) (X : String) (names : List String) : List Cond := (Bundle.ownAtoms0 own ic X names).filter vx_no
def vx_atS (own : String) (ic : Nat) (X : String) (names : List String) : List Cond := (Bundle.ownAtoms own ic X names).filter vx_no
/-- a word that the tables alone decide, or a good one -/
def vx_ot (w : Cond) : Bool := w.onTables || goodWord w
theorem vx_ot_at {args a' : Array Value} {s U : State} {w : Cond} (hW : s.WarmedH U.vm) (hvm : s.vm = U.vm) (hg : vx_ot w = true) (h : w.before args s = true) : w.before a' U = true := by
  simp only [vx_ot, Bool.or_eq_true] at hg
  rcases hg with hg | hg
  · exact va_tabs hg hvm h
  · exact word_at hW (good_of_word hg) h
/-- a list's words: the good ones out of the method's own list, the others by premises of their own -/
theorem vx_hat {args : Array Value} {s : State} {L B : List Cond} (h1 : ∀ w ∈ L.filter goodWord, w.before args s = true) (h2 : ∀ w ∈ L.filter (fun w => !goodWord w), w ∈ B) (h3 : ∀ w ∈ B, w.before args s = true) : ∀ w ∈ L, w.before args s = true := by
  intro w hw
  by_cases g : goodWord w = true
  · exact h1 w (List.mem_filter.mpr ⟨hw, g⟩)
  · refine h3 w (h2 w (List.mem_filter.mpr ⟨hw, ?_⟩))
    show (!goodWord w) = true
    cases hgw : goodWord w
    · rfl
    · exact absurd hgw g
theorem vx_c {args : Array Value} {s : State} {w : Cond} {B : List Cond} (h : w.before args s = true) (t : ∀ w ∈ B, w.before args s = true) : ∀ w' ∈ w :: B, w'.before args s = true := fun w' h' => (List.mem_cons.mp h').elim (fun e => by rw [e]; exact h) (t w')
theorem vx_n {args : Array Value} {s : State} : ∀ w ∈ ([] : List Cond), w.before args s = true := fun _ h => nomatch h
theorem vx_own {args : Array Value} {s : State} {L : List Cond} (h1 : ∀ w ∈ L.filter vx_no, w.before args s = true)
    (hU : (Cond.isRef (.static Bundle.tN "UNASSIGNED_STACK" Bundle.steD)).before args s = true) (hN : (Cond.isRef (.static Bundle.tN "SUPPRESSED_SENTINEL" Bundle.listD)).before args s = true)
    (lU : (Cond.laysStatic Bundle.tN "UNASSIGNED_STACK" Bundle.steD).before args s = true) (lN : (Cond.laysStatic Bundle.tN "SUPPRESSED_SENTINEL" Bundle.listD).before args s = true) : ∀ w ∈ L, w.before args s = true := by
  intro w hw
  by_cases e1 : w = .isRef (.static Bundle.tN "UNASSIGNED_STACK" Bundle.steD)
  · rw [e1]; exact hU
  · by_cases e2 : w = .isRef (.static Bundle.tN "SUPPRESSED_SENTINEL" Bundle.listD)
    · rw [e2]; exact hN
    · by_cases e3 : w = .laysStatic Bundle.tN "UNASSIGNED_STACK" Bundle.steD
      · rw [e3]; exact lU
      · by_cases e4 : w = .laysStatic Bundle.tN "SUPPRESSED_SENTINEL" Bundle.listD
        · rw [e4]; exact lN
        · exact h1 w (List.mem_filter.mpr ⟨hw, by unfold vx_no; rw [decide_eq_true e1, decide_eq_true e2, decide_eq_true e3, decide_eq_true e4]; rfl⟩)
/-- where a static field lies, its class's statics cell in H -/
def vx_L (C n d : String) (A : Nat → Prop) (U : State) (H : Heap) : Prop := ∃ (c : ClassId) (k : Class) (i : Nat) (f : Field) (a : Nat) (cell : Cell), U.vm.findClass C = some c ∧ U.fieldFound? C n d = some (c, k, i, f) ∧ f.isStatic = true ∧ k.statics = some a ∧ H[a]? = some cell ∧ cell.vm.isStatics = true ∧ cell.cls = c ∧ f.slot < cell.slots.size ∧ k.staticTypes[f.slot]? = some f.type ∧ ¬ A a
theorem vx_L.moved {C n d : String} {A : Nat → Prop} {u U : State} {H : Heap} (hvm : u.vm.Alike U.vm) (h : vx_L C n d A u H) : vx_L C n d A U H := by
  obtain ⟨c, k, i, f, a, cell, h1, h2, h3, h4, h5, h6, h7, h8, h9, h10⟩ := h
  obtain ⟨k', hi', he⟩ := State.fieldFound?_setVm hvm h2
  exact ⟨c, k', i, f, a, cell, by rw [hvm.findClass]; exact h1, hi', h3, by rw [he]; exact h4, h5, h6, h7, h8, by rw [he]; exact h9, h10⟩
theorem vx_L.kept {C n d : String} {A : Nat → Prop} {U : State} {H H1 : Heap} (h : vx_L C n d A U H) (hq : ∀ a : Nat, a < H.size → ¬ A a → H1[a]? = H[a]?) : vx_L C n d A U H1 := by
  obtain ⟨c, k, i, f, a, cell, h1, h2, h3, h4, h5, h6, h7, h8, h9, h10⟩ := h
  exact ⟨c, k, i, f, a, cell, h1, h2, h3, h4, by rw [hq a (Array.getElem?_eq_some_iff.mp h5).1 h10]; exact h5, h6, h7, h8, h9, h10⟩
theorem vx_L.narrow {C n d : String} {A B : Nat → Prop} {U : State} {H : Heap} (h : vx_L C n d A U H) (hAB : ∀ q, B q → A q) : vx_L C n d B U H := by
  obtain ⟨c, k, i, f, a, cell, h1, h2, h3, h4, h5, h6, h7, h8, h9, h10⟩ := h
  exact ⟨c, k, i, f, a, cell, h1, h2, h3, h4, h5, h6, h7, h8, h9, fun z => h10 (hAB _ z)⟩
theorem vx_L.word {C n d : String} {A : Nat → Prop} {s : State} {args : Array Value} (h : vx_L C n d A s s.heap) : (Cond.laysStatic C n d).before args s = true := by
  obtain ⟨c, k, i, f, a, cell, h1, h2, h3, h4, h5, h6, h7, h8, h9, -⟩ := h
  show (Cond.laysStatic C n d).holds args s none s [] = true
  exact Cond.laysStatic_of h1 h2 h3 h4 h5 h6 h7 h8 h9
/-- .. and what it holds: null or some reference -/
def vx_Zq (C n d : String) (A : Nat → Prop) (U : State) (H : Heap) : Prop := va_Zq C n d A U H ∧ vx_L C n d A U H
theorem vx_Zq.moved {C n d : String} {A : Nat → Prop} {u U : State} {H : Heap} (hvm : u.vm.Alike U.vm) (h : vx_Zq C n d A u H) : vx_Zq C n d A U H := ⟨va_Zq.moved hvm h.1, vx_L.moved hvm h.2⟩
theorem vx_Zq.kept {C n d : String} {A : Nat → Prop} {U : State} {H H1 : Heap} (h : vx_Zq C n d A U H) (hq : ∀ a : Nat, a < H.size → ¬ A a → H1[a]? = H[a]?) : vx_Zq C n d A U H1 := ⟨va_Zq.kept h.1 hq, vx_L.kept h.2 hq⟩
theorem vx_Zq.narrow {C n d : String} {A B : Nat → Prop} {U : State} {H : Heap} (h : vx_Zq C n d A U H) (hAB : ∀ q, B q → A q) : vx_Zq C n d B U H := ⟨va_Zq.narrow h.1 hAB, vx_L.narrow h.2 hAB⟩
theorem vx_Zqof {args : Array Value} {s : State} {C n d : String} {A : Nat → Prop} (hl : (Cond.laysStatic C n d).before args s = true) (hini : (Cond.initialized C).before args s = true) (h : (Cond.isRef (.static C n d)).before args s = true) (hA : ∀ a : Nat, a < s.heap.size → ¬ A a) : vx_Zq C n d A s s.heap := by
  refine ⟨va_Zqof hl hini h hA, ?_⟩
  obtain ⟨c, k, i, f, a, cell, h1, h2, h3, h4, h5, h6, h7, h8, h9⟩ := Cond.laysStatic_spec hl
  exact ⟨c, k, i, f, a, cell, h1, h2, h3, h4, h5, h6, h7, h8, h9, hA a (Array.getElem?_eq_some_iff.mp h5).1⟩
theorem vx_isRef {C n d : String} {v : Value} {A : Nat → Prop} {s : State} {args : Array Value} (h : va_Z C n d v A s s.heap) (hv : v.isRef = true) : (Cond.isRef (.static C n d)).before args s = true := by
  obtain ⟨cf, kf, fi, f, a, cell, h1, h2, h3, h4, h5, h6, h7, -⟩ := h
  have he : (Term.static C n d).eval args s none [] s = some v := by
    simp [Term.eval, State.fieldNamed?, h1, h2, h4, h5, h6, h7]
  simp only [Cond.before, Cond.holds, Cond.value, he]
  cases v <;> simp_all [Value.isRef]
theorem vx_isRefq {C n d : String} {A : Nat → Prop} {s : State} {args : Array Value} (h : va_Zq C n d A s s.heap) : (Cond.isRef (.static C n d)).before args s = true := by
  rcases h with h | ⟨t, h⟩
  · exact vx_isRef h rfl
  · exact vx_isRef h rfl
/-- the same frame, seen from here: as if the method were called anew in this heap -/
theorem vx_rebase {T : State} (X : Stand p l e R s m args below meth c T locs cells slots) {R' : Room} (hf : R'.frames ≤ R.frames) (hl : R'.locals ≤ R.locals) (hc : cells + R'.cells ≤ R.cells) (hs : slots + R'.slots ≤ R.slots) :
    Stand p l e R' ((T.setVm s.vm).setFrames (.invoking m args :: below)) m args below meth c T [] 0 0 := by
  have htop : (T.setVm s.vm).topJava?.isSome := X.here.top
  have hF : ((T.setVm s.vm).setFrames (.invoking m args :: below)).frames = .invoking m args :: below := State.frames_setFrames _ (State.cur_lt_of_top htop)
  obtain ⟨g₀, hg0⟩ := Option.isSome_iff_exists.mp htop
  obtain ⟨r, hr⟩ := State.topJava?_eq_some.mp hg0
  have hl9 : e.platform.stackLimits (T.setVm s.vm).me = e.platform.stackLimits s.me := X.limits
  have hb9 : (T.setVm s.vm).me.stackBytes = s.me.stackBytes := X.bytes
  refine ⟨X.admits, X.cas, X.clock, hF, ?_, X.hears, X.method, X.code, X.here, X.tail, X.warmed, ?_, ?_, ?_⟩
  · have h := X.room
    have hU : ((T.setVm s.vm).setFrames (.invoking m args :: below)).localsInUse = s.localsInUse := by
      rw [State.localsInUse_invoking hF (meth := meth) (c := c) X.method X.code, State.localsInUse_invoking X.frames X.method X.code]
    simp only [State.hasRoom, Bool.and_eq_true, decide_eq_true_eq] at h ⊢
    obtain ⟨⟨⟨⟨h1, h2, h3, h4, h5, h6⟩, h7⟩, h8⟩, h9⟩ := h
    rw [X.frames, List.length_cons] at h2 h3
    have q1 := X.heapSize
    have q2 := X.used
    simp only [hF, hU, List.length_cons, State.stackLimits_setFrames, State.stackBytes_setFrames, hl9, hb9]
    refine ⟨⟨⟨⟨by omega, by omega, by omega, by omega, by omega, h6⟩, ?_⟩, ?_⟩, X.book⟩
    · show T.heap.size + R'.cells ≤ e.platform.maxCells
      omega
    · show T.slotsUsed + R'.slots ≤ e.platform.maxSlots
      omega
  · rw [State.stackLimits_setFrames]; rfl
  · rw [State.stackBytes_setFrames]; rfl
  · refine ⟨?_, Nat.le_refl _, Nat.le_refl _, ?_, ?_, fun a c9 h9 => ⟨c9, h9, rfl, rfl, fun _ _ => rfl⟩⟩
    · obtain ⟨t, ht, -⟩ := State.frames_cons hr
      show T.setVm s.vm = { ((T.setVm s.vm).setFrames (.invoking m args :: below)).setFrames (T.setVm s.vm).frames with heap := T.heap, slotsUsed := T.slotsUsed }
      rw [State.setFrames_setFrames, State.setFrames_self ht]
      rfl
    · show T.slotsUsed = T.slotsUsed + ((T.heap.toList.drop T.heap.size).map (·.slots.size)).sum
      rw [List.drop_eq_nil_of_le (Nat.le_of_eq Array.length_toList)]
      rfl
    · show ((T.heap.toList.drop T.heap.size).map (·.slots.size)).sum ≤ 0
      rw [List.drop_eq_nil_of_le (Nat.le_of_eq Array.length_toList)]
      exact Nat.le_refl _
/-- 'throw new E()': new; dup; invokespecial; athrow -/
theorem vx_throw0 {cc : ByteArray} {pc : Nat} (hexec : p.tables.exec = Jvm.exec) (hb : c.code = cc) (hl : l.stackTraces = false) {own cls : String} {names : List String} {ik ic mc ms : Nat} {A : Nat → Prop}
    (hown : s.vm.findClass own = some m.cls) (hcls : Bundle.fit cls = true) (hnames : ∀ n ∈ names, Bundle.fit n = true)
    (hk : (Cond.classLink own ik cls).before args s = true) (hini : (Cond.initialized cls).before args s = true) (hat : ∀ w ∈ vx_at0 own ic cls names, w.before args s = true)
    (hgood : ∀ w ∈ Cond.classLink own ik cls :: Cond.initialized cls :: vx_at0 own ic cls names, vx_ot w = true)
    (hU : vx_Zq Bundle.tN "UNASSIGNED_STACK" Bundle.steD A s s.heap) (hN : vx_Zq Bundle.tN "SUPPRESSED_SENTINEL" Bundle.listD A s s.heap) (hS : va_S A s.heap H locs) (hsize : ls.size = c.maxLocals)
    (d0 : decode cc pc = .ok (.new ik, 3)) (d3 : decode cc (pc + 3) = .ok (.dup, 1)) (d4 : decode cc (pc + 4) = .ok (.invokespecial ic, 3)) (d7 : decode cc (pc + 7) = .ok (.athrow, 1))
    (hout : ∀ x ∈ c.exceptionTable.toList, covers x (pc + 7) = false)
    (hRframes : names.length + 3 < R.frames) (hRlocals : (rest.map fun v => v.category).sum + (13 * (names.length + 1) + 42) ≤ R.locals) (hRcells : cells + 1 ≤ R.cells) (hRslots : slots + 6 ≤ R.slots) (hlocks : meth.locks = false)
    (hx : ∀ t : State, s.vm.Alike t.vm → H.size ≤ t.heap.size → (∀ q : Nat, q < H.size → t.heap[q]? = H[q]?) → XC cls s t)
    (hf : ∀ z ∈ locs, free z.base) (hc : cells + 1 ≤ mc) (hs : slots + 6 ≤ ms) :
    W p l e R s m args below meth c H locs cells slots (vx_MQ below Qc XC args s mc ms free) (F0 m pc ls rest) := by
  intro T hT X
  have htr : e.platform.stackTraces = false := (show e.platform.stackTraces = l.stackTraces by rw [X.admits.platform]).trans hl
  have Y := vx_rebase X (R' := { frames := R.frames, locals := R.locals, cells := 1, slots := 6 }) (Nat.le_refl _) (Nat.le_refl _) hRcells hRslots
  obtain ⟨s', hA⟩ : ∃ z, z = (T.setVm s.vm).setFrames (.invoking m args :: below) := ⟨_, rfl⟩
  rw [← hA] at Y
  have hvm : s'.vm = s.vm := by rw [hA]; rfl
  have hhp : s'.heap = H := by rw [hA]; exact hT
  have hW0 : s.WarmedH s'.vm := by rw [hvm]; exact State.WarmedH.refl s
  have hat' : ∀ w ∈ vx_at0 own ic cls names, w.before args s' = true := fun w hw => vx_ot_at hW0 hvm.symm (hgood w (List.mem_cons_of_mem _ (List.mem_cons_of_mem _ hw))) (hat w hw)
  have hk' : (Cond.classLink own ik cls).before args s' = true := vx_ot_at hW0 hvm.symm (hgood _ List.mem_cons_self) hk
  have hini' : (Cond.initialized cls).before args s' = true := vx_ot_at hW0 hvm.symm (hgood _ (List.mem_cons_of_mem _ List.mem_cons_self)) hini
  have hU' : vx_Zq Bundle.tN "UNASSIGNED_STACK" Bundle.steD A s' s'.heap := by rw [hhp]; exact vx_Zq.moved hW0.alike (hU.kept hS.2.1)
  have hN' : vx_Zq Bundle.tN "SUPPRESSED_SENTINEL" Bundle.listD A s' s'.heap := by rw [hhp]; exact vx_Zq.moved hW0.alike (hN.kept hS.2.1)
  have h : ∀ w ∈ Bundle.ownAtoms0 own ic cls names, w.before args s' = true := vx_own hat' (vx_isRefq hU'.1) (vx_isRefq hN'.1) hU'.2.word hN'.2.word
  have hown' : s'.vm.findClass own = some m.cls := by rw [hvm]; exact hown
  have hins : (Cond.instantiable cls 6).before args s' = true := h _ (by simp [Bundle.ownAtoms0])
  obtain ⟨vm₁, cX, kX, hfX, hkX, -, -, X₁, st1⟩ := Y.newCold hexec (own := own) (C := cls) (index := ik) (n := 6) hown' hk' hins hini'
    (g := F0 m pc ls rest) rfl (by rw [hb]; exact d0) (Nat.le_refl _) (Nat.le_refl _)
  generalize hT1 : (T.setVm vm₁).pushCell { cls := cX, slots := kX.instanceTypes.map defaultValue, vm := .none } = T1 at X₁ st1
  have hcat : (Value.ref T.heap.size).category = 1 := rfl
  have hcellA : T1.heap[T.heap.size]? = some (freshCell cX kX) := by rw [← hT1]; exact State.heap_pushCell_size _ _
  have d3' : decode c.code (pc + 3) = .ok (.dup, 1) := by rw [hb]; exact d3
  obtain ⟨U, hsteps, hrun, hend, hW, hsame, ce, hce, hO⟩ := X₁.ctorThrow0 hexec htr (own := own) (cls := cls) (names := names) (ic := ic) hown' hcls hnames h (fun x hx => nomatch hx) hfX hkX hcellA (by rw [hhp, hT]; exact Nat.le_refl _)
    (g := { method := m, pc := pc + 4, locals := ls, stack := .ref T.heap.size :: .ref T.heap.size :: rest, locked := none }) rfl hsize rfl rfl (rest := rest) rfl
    (by rw [hb]; exact d4) (by rw [hb]; exact d7) hout hRframes (by simp only [List.map_cons, List.sum_cons, hcat]; omega) hlocks
  obtain ⟨f1, f2⟩ := vx_frame hsame
  rw [hhp] at f1 f2
  have hWs : s.WarmedH U.vm := State.WarmedH.trans hW0 hW
  have hcl : s.vm.findClass cls = some ce.cls := by
    have h9 := hO.cls
    rw [hvm] at h9
    exact h9
  have hall : s.sameButNew ({ U with vm := s.vm } : State) locs mc ms := by
    subst hA
    obtain ⟨e1, e2⟩ := hsame
    rw [State.setFrames_setFrames] at e1
    have h2 : (T.setVm s.vm).sameButNew ({ U with vm := s.vm } : State) [] (0 + 1) (0 + 6) := ⟨e1, e2⟩
    have h3 := X.same.trans h2
    rw [List.append_nil] at h3
    exact h3.mono hc hs
  refine ⟨U, ?_, .threw T.heap.size, hrun, hend, Or.inr ⟨T.heap.size, rfl, cls, ce, locs, hx U hWs.alike f1 (fun q hq => f2 q hq (fun z hz => nomatch hz)), hce, hO.vm, hcl, hWs, hall, hf⟩⟩
  refine st1 _ ?_
  show Steps p.tables e below (T1.setTop { method := m, pc := pc + 3, locals := ls, stack := .ref T.heap.size :: rest, locked := none }) _
  jvm_step X₁.here [X₁.here.top, hexec, d3', Value.category]
  exact hsteps
/-- 'throw new E("text")': new; dup; ldc; invokespecial; athrow -/
theorem vx_throwS {cc : ByteArray} {pc : Nat} (hexec : p.tables.exec = Jvm.exec) (hb : c.code = cc) (hl : l.stackTraces = false) {own cls text : String} {names : List String} {ik is ic mc ms sa : Nat} {A : Nat → Prop}
    (hown : s.vm.findClass own = some m.cls) (hcls : Bundle.fit cls = true) (hnames : ∀ n ∈ names, Bundle.fit n = true)
    (hk : (Cond.classLink own ik cls).before args s = true) (hini : (Cond.initialized cls).before args s = true) (hstr : vk_R own is text sa s) (hat : ∀ w ∈ vx_atS own ic cls names, w.before args s = true)
    (hgood : ∀ w ∈ Cond.classLink own ik cls :: Cond.initialized cls :: vx_atS own ic cls names, vx_ot w = true)
    (hU : vx_Zq Bundle.tN "UNASSIGNED_STACK" Bundle.steD A s s.heap) (hN : vx_Zq Bundle.tN "SUPPRESSED_SENTINEL" Bundle.listD A s s.heap) (hS : va_S A s.heap H locs) (hsize : ls.size = c.maxLocals)
    (d0 : decode cc pc = .ok (.new ik, 3)) (d3 : decode cc (pc + 3) = .ok (.dup, 1)) (d4 : decode cc (pc + 4) = .ok (.ldc is, 2)) (d6 : decode cc (pc + 6) = .ok (.invokespecial ic, 3)) (d9 : decode cc (pc + 9) = .ok (.athrow, 1))
    (hout : ∀ x ∈ c.exceptionTable.toList, covers x (pc + 9) = false)
    (hRframes : names.length + 3 < R.frames) (hRlocals : (rest.map fun v => v.category).sum + (13 * (names.length + 1) + 43) ≤ R.locals) (hRcells : cells + 1 ≤ R.cells) (hRslots : slots + 6 ≤ R.slots) (hlocks : meth.locks = false)
    (hx : ∀ t : State, s.vm.Alike t.vm → H.size ≤ t.heap.size → (∀ q : Nat, q < H.size → t.heap[q]? = H[q]?) → XC cls s t)
    (hf : ∀ z ∈ locs, free z.base) (hc : cells + 1 ≤ mc) (hs : slots + 6 ≤ ms) :
    W p l e R s m args below meth c H locs cells slots (vx_MQ below Qc XC args s mc ms free) (F0 m pc ls rest) := by
  intro T hT X
  have htr : e.platform.stackTraces = false := (show e.platform.stackTraces = l.stackTraces by rw [X.admits.platform]).trans hl
  have Y := vx_rebase X (R' := { frames := R.frames, locals := R.locals, cells := 1, slots := 6 }) (Nat.le_refl _) (Nat.le_refl _) hRcells hRslots
  obtain ⟨s', hA⟩ : ∃ z, z = (T.setVm s.vm).setFrames (.invoking m args :: below) := ⟨_, rfl⟩
  rw [← hA] at Y
  have hvm : s'.vm = s.vm := by rw [hA]; rfl
  have hhp : s'.heap = H := by rw [hA]; exact hT
  have hW0 : s.WarmedH s'.vm := by rw [hvm]; exact State.WarmedH.refl s
  have hat' : ∀ w ∈ vx_atS own ic cls names, w.before args s' = true := fun w hw => vx_ot_at hW0 hvm.symm (hgood w (List.mem_cons_of_mem _ (List.mem_cons_of_mem _ hw))) (hat w hw)
  have hk' : (Cond.classLink own ik cls).before args s' = true := vx_ot_at hW0 hvm.symm (hgood _ List.mem_cons_self) hk
  have hini' : (Cond.initialized cls).before args s' = true := vx_ot_at hW0 hvm.symm (hgood _ (List.mem_cons_of_mem _ List.mem_cons_self)) hini
  have hU' : vx_Zq Bundle.tN "UNASSIGNED_STACK" Bundle.steD A s' s'.heap := by rw [hhp]; exact vx_Zq.moved hW0.alike (hU.kept hS.2.1)
  have hN' : vx_Zq Bundle.tN "SUPPRESSED_SENTINEL" Bundle.listD A s' s'.heap := by rw [hhp]; exact vx_Zq.moved hW0.alike (hN.kept hS.2.1)
  have h : ∀ w ∈ Bundle.ownAtoms own ic cls names, w.before args s' = true := vx_own hat' (vx_isRefq hU'.1) (vx_isRefq hN'.1) hU'.2.word hN'.2.word
  have hown' : s'.vm.findClass own = some m.cls := by rw [hvm]; exact hown
  have hins : (Cond.instantiable cls 6).before args s' = true := h _ (by simp [Bundle.ownAtoms])
  obtain ⟨vm₁, cX, kX, hfX, hkX, -, -, X₁, st1⟩ := Y.newCold hexec (own := own) (C := cls) (index := ik) (n := 6) hown' hk' hins hini'
    (g := F0 m pc ls rest) rfl (by rw [hb]; exact d0) (Nat.le_refl _) (Nat.le_refl _)
  generalize hT1 : (T.setVm vm₁).pushCell { cls := cX, slots := kX.instanceTypes.map defaultValue, vm := .none } = T1 at X₁ st1
  have hcat : (Value.ref T.heap.size).category = 1 := rfl
  have hcellA : T1.heap[T.heap.size]? = some (freshCell cX kX) := by rw [← hT1]; exact State.heap_pushCell_size _ _
  have d3' : decode c.code (pc + 3) = .ok (.dup, 1) := by rw [hb]; exact d3
  have d4' : decode c.code (pc + 4) = .ok (.ldc is, 2) := by rw [hb]; exact d4
  have hstr' : vk_R own is text sa s' := vk_R.warm hW0 hstr
  obtain ⟨U, hsteps, hrun, hend, hW, hsame, ce, hce, hO⟩ := X₁.ctorThrowS hexec htr (own := own) (cls := cls) (names := names) (ic := ic) hown' hcls hnames h (fun x hx => nomatch hx) hfX hkX hcellA (by rw [hhp, hT]; exact Nat.le_refl _) (msg := .ref sa) rfl
    (g := { method := m, pc := pc + 6, locals := ls, stack := .ref sa :: .ref T.heap.size :: .ref T.heap.size :: rest, locked := none }) rfl hsize rfl rfl (rest := rest) rfl
    (by rw [hb]; exact d6) (by rw [hb]; exact d9) hout hRframes (by simp only [List.map_cons, List.sum_cons, hcat]; omega) hlocks
  obtain ⟨f1, f2⟩ := vx_frame hsame
  rw [hhp] at f1 f2
  have hWs : s.WarmedH U.vm := State.WarmedH.trans hW0 hW
  have hcl : s.vm.findClass cls = some ce.cls := by
    have h9 := hO.cls
    rw [hvm] at h9
    exact h9
  have hall : s.sameButNew ({ U with vm := s.vm } : State) locs mc ms := by
    subst hA
    obtain ⟨e1, e2⟩ := hsame
    rw [State.setFrames_setFrames] at e1
    have h2 : (T.setVm s.vm).sameButNew ({ U with vm := s.vm } : State) [] (0 + 1) (0 + 6) := ⟨e1, e2⟩
    have h3 := X.same.trans h2
    rw [List.append_nil] at h3
    exact h3.mono hc hs
  refine ⟨U, ?_, .threw T.heap.size, hrun, hend, Or.inr ⟨T.heap.size, rfl, cls, ce, locs, hx U hWs.alike f1 (fun q hq => f2 q hq (fun z hz => nomatch hz)), hce, hO.vm, hcl, hWs, hall, hf⟩⟩
  refine st1 _ ?_
  show Steps p.tables e below (T1.setTop { method := m, pc := pc + 3, locals := ls, stack := .ref T.heap.size :: rest, locked := none }) _
  jvm_step X₁.here [X₁.here.top, hexec, d3', Value.category]
  exact X₁.ldcString hexec (own := own) (text := text) (index := is) (a := sa) hown' hstr'.1 hstr'.2
    (g := { method := m, pc := pc + 4, locals := ls, stack := .ref T.heap.size :: .ref T.heap.size :: rest, locked := none }) rfl d4' _ hsteps
/-- 'throw new E("text")', the text by a wide index -/
theorem vx_throwSW {cc : ByteArray} {pc : Nat} (hexec : p.tables.exec = Jvm.exec) (hb : c.code = cc) (hl : l.stackTraces = false) {own cls text : String} {names : List String} {ik is ic mc ms sa : Nat} {A : Nat → Prop}
    (hown : s.vm.findClass own = some m.cls) (hcls : Bundle.fit cls = true) (hnames : ∀ n ∈ names, Bundle.fit n = true)
    (hk : (Cond.classLink own ik cls).before args s = true) (hini : (Cond.initialized cls).before args s = true) (hstr : vk_R own is text sa s) (hat : ∀ w ∈ vx_atS own ic cls names, w.before args s = true)
    (hgood : ∀ w ∈ Cond.classLink own ik cls :: Cond.initialized cls :: vx_atS own ic cls names, vx_ot w = true)
    (hU : vx_Zq Bundle.tN "UNASSIGNED_STACK" Bundle.steD A s s.heap) (hN : vx_Zq Bundle.tN "SUPPRESSED_SENTINEL" Bundle.listD A s s.heap) (hS : va_S A s.heap H locs) (hsize : ls.size = c.maxLocals)
    (d0 : decode cc pc = .ok (.new ik, 3)) (d3 : decode cc (pc + 3) = .ok (.dup, 1)) (d4 : decode cc (pc + 4) = .ok (.ldc_w is, 3)) (d7 : decode cc (pc + 7) = .ok (.invokespecial ic, 3)) (d10 : decode cc (pc + 10) = .ok (.athrow, 1))
    (hout : ∀ x ∈ c.exceptionTable.toList, covers x (pc + 10) = false)
    (hRframes : names.length + 3 < R.frames) (hRlocals : (rest.map fun v => v.category).sum + (13 * (names.length + 1) + 43) ≤ R.locals) (hRcells : cells + 1 ≤ R.cells) (hRslots : slots + 6 ≤ R.slots) (hlocks : meth.locks = false)
    (hx : ∀ t : State, s.vm.Alike t.vm → H.size ≤ t.heap.size → (∀ q : Nat, q < H.size → t.heap[q]? = H[q]?) → XC cls s t)
    (hf : ∀ z ∈ locs, free z.base) (hc : cells + 1 ≤ mc) (hs : slots + 6 ≤ ms) :
    W p l e R s m args below meth c H locs cells slots (vx_MQ below Qc XC args s mc ms free) (F0 m pc ls rest) := by
  intro T hT X
  have htr : e.platform.stackTraces = false := (show e.platform.stackTraces = l.stackTraces by rw [X.admits.platform]).trans hl
  have Y := vx_rebase X (R' := { frames := R.frames, locals := R.locals, cells := 1, slots := 6 }) (Nat.le_refl _) (Nat.le_refl _) hRcells hRslots
  obtain ⟨s', hA⟩ : ∃ z, z = (T.setVm s.vm).setFrames (.invoking m args :: below) := ⟨_, rfl⟩
  rw [← hA] at Y
  have hvm : s'.vm = s.vm := by rw [hA]; rfl
  have hhp : s'.heap = H := by rw [hA]; exact hT
  have hW0 : s.WarmedH s'.vm := by rw [hvm]; exact State.WarmedH.refl s
  have hat' : ∀ w ∈ vx_atS own ic cls names, w.before args s' = true := fun w hw => vx_ot_at hW0 hvm.symm (hgood w (List.mem_cons_of_mem _ (List.mem_cons_of_mem _ hw))) (hat w hw)
  have hk' : (Cond.classLink own ik cls).before args s' = true := vx_ot_at hW0 hvm.symm (hgood _ List.mem_cons_self) hk
  have hini' : (Cond.initialized cls).before args s' = true := vx_ot_at hW0 hvm.symm (hgood _ (List.mem_cons_of_mem _ List.mem_cons_self)) hini
  have hU' : vx_Zq Bundle.tN "UNASSIGNED_STACK" Bundle.steD A s' s'.heap := by rw [hhp]; exact vx_Zq.moved hW0.alike (hU.kept hS.2.1)
  have hN' : vx_Zq Bundle.tN "SUPPRESSED_SENTINEL" Bundle.listD A s' s'.heap := by rw [hhp]; exact vx_Zq.moved hW0.alike (hN.kept hS.2.1)
  have h : ∀ w ∈ Bundle.ownAtoms own ic cls names, w.before args s' = true := vx_own hat' (vx_isRefq hU'.1) (vx_isRefq hN'.1) hU'.2.word hN'.2.word
  have hown' : s'.vm.findClass own = some m.cls := by rw [hvm]; exact hown
  have hins : (Cond.instantiable cls 6).before args s' = true := h _ (by simp [Bundle.ownAtoms])
  obtain ⟨vm₁, cX, kX, hfX, hkX, -, -, X₁, st1⟩ := Y.newCold hexec (own := own) (C := cls) (index := ik) (n := 6) hown' hk' hins hini'
    (g := F0 m pc ls rest) rfl (by rw [hb]; exact d0) (Nat.le_refl _) (Nat.le_refl _)
  generalize hT1 : (T.setVm vm₁).pushCell { cls := cX, slots := kX.instanceTypes.map defaultValue, vm := .none } = T1 at X₁ st1
  have hcat : (Value.ref T.heap.size).category = 1 := rfl
  have hcellA : T1.heap[T.heap.size]? = some (freshCell cX kX) := by rw [← hT1]; exact State.heap_pushCell_size _ _
  have d3' : decode c.code (pc + 3) = .ok (.dup, 1) := by rw [hb]; exact d3
  have d4' : decode c.code (pc + 4) = .ok (.ldc_w is, 3) := by rw [hb]; exact d4
  have hstr' : vk_R own is text sa s' := vk_R.warm hW0 hstr
  obtain ⟨U, hsteps, hrun, hend, hW, hsame, ce, hce, hO⟩ := X₁.ctorThrowS hexec htr (own := own) (cls := cls) (names := names) (ic := ic) hown' hcls hnames h (fun x hx => nomatch hx) hfX hkX hcellA (by rw [hhp, hT]; exact Nat.le_refl _) (msg := .ref sa) rfl
    (g := { method := m, pc := pc + 7, locals := ls, stack := .ref sa :: .ref T.heap.size :: .ref T.heap.size :: rest, locked := none }) rfl hsize rfl rfl (rest := rest) rfl
    (by rw [hb]; exact d7) (by rw [hb]; exact d10) hout hRframes (by simp only [List.map_cons, List.sum_cons, hcat]; omega) hlocks
  obtain ⟨f1, f2⟩ := vx_frame hsame
  rw [hhp] at f1 f2
  have hWs : s.WarmedH U.vm := State.WarmedH.trans hW0 hW
  have hcl : s.vm.findClass cls = some ce.cls := by
    have h9 := hO.cls
    rw [hvm] at h9
    exact h9
  have hall : s.sameButNew ({ U with vm := s.vm } : State) locs mc ms := by
    subst hA
    obtain ⟨e1, e2⟩ := hsame
    rw [State.setFrames_setFrames] at e1
    have h2 : (T.setVm s.vm).sameButNew ({ U with vm := s.vm } : State) [] (0 + 1) (0 + 6) := ⟨e1, e2⟩
    have h3 := X.same.trans h2
    rw [List.append_nil] at h3
    exact h3.mono hc hs
  refine ⟨U, ?_, .threw T.heap.size, hrun, hend, Or.inr ⟨T.heap.size, rfl, cls, ce, locs, hx U hWs.alike f1 (fun q hq => f2 q hq (fun z hz => nomatch hz)), hce, hO.vm, hcl, hWs, hall, hf⟩⟩
  refine st1 _ ?_
  show Steps p.tables e below (T1.setTop { method := m, pc := pc + 3, locals := ls, stack := .ref T.heap.size :: rest, locked := none }) _
  jvm_step X₁.here [X₁.here.top, hexec, d3', Value.category]
  exact X₁.ldcStringW hexec (own := own) (text := text) (index := is) (a := sa) hown' hstr'.1 hstr'.2
    (g := { method := m, pc := pc + 4, locals := ls, stack := .ref T.heap.size :: .ref T.heap.size :: rest, locked := none }) rfl d4' _ hsteps
end Ends
section Bodies
variable {l : Launch}
theorem vx_ofW {y : MethodName} {ws ws' : List Cond} {rm : Room} {Pc : Array Value → State → Prop} {Qc : Array Value → State → Outcome → State → Prop} {XC : String → State → State → Prop} {mc ms : Nat} {free : Addr → Prop} {cc : ByteArray} {maxL : Nat} {ret : Option FieldType}
    (hy : plainName y.cls = true) (hw : ws = Cond.code y cc maxL ret :: ws')
    (body : ∀ p e s m args below meth c s₁, BodyLoose p l y (headSpec ws rm) cc maxL ret e s m args below meth c s₁ → c.maxLocals = maxL → (∀ x ∈ c.exceptionTable.toList, False) → Pc args s →
      W p l e (headSpec ws rm).room s m args below meth c s.heap [] 0 0 (vx_MQ below Qc XC args s mc ms free) (entryFrame m args maxL)) : vx_Met l y ws rm Pc Qc XC mc ms free := by
  refine MetFree.of_bodyS (code := cc) (maxLocals := maxL) (ret := ret) hy ?_ ?_
  · intro args s m h hn
    obtain ⟨meth, c, h1, h2, h3, h4, h5, h6, -, -⟩ := Cond.code_spec hn (atoms_spec (ws := ws) h _ (by rw [hw]; exact List.mem_cons_self))
    exact ⟨meth, c, h1, h2, h3, h4, h5, h6⟩
  · intro p e s m args below meth c s₁ B hml hP _
    have hh0 : s₁.heap = s.heap := by rw [B.state]; rfl
    have ht : ∀ x ∈ c.exceptionTable.toList, False := by
      obtain ⟨meth9, c9, h1, h2, -, -, -, -, h7, -⟩ := Cond.code_spec B.named (atoms_spec (ws := ws) B.pre _ (by rw [hw]; exact List.mem_cons_self))
      cases Option.some.inj (h1.symm.trans B.method)
      cases Option.some.inj (h2.symm.trans (Stand.of_body B).code)
      intro x hx
      rw [Array.isEmpty_iff.mp h7] at hx
      cases hx
    obtain ⟨t, a1, o, b1, b2, b3⟩ := body p e s m args below meth c s₁ B hml ht hP s₁ hh0 (Stand.of_body B)
    exact ⟨t, o, a1, b1, b2, b3⟩
/-- the table of a body with handlers -/
theorem vx_table {p : Program} {x y : MethodName} {S : Spec} {cc bytes : ByteArray} {maxL maxL' : Nat} {ret ret' : Option FieldType} {e : Env} {s s₁ : State} {m : MethodId} {args : Array Value} {below : List Frame} {meth : Method} {c : Code} {hh : List (Nat × Nat × Nat × Nat)}
    (B : BodyLoose p l y S cc maxL ret e s m args below meth c s₁) (h : (Cond.codeWith y bytes maxL' ret' hh).before args s = true) : c.exceptionTable.toList = tableOf hh := by
  obtain ⟨m9, meth9, c9, hn9, h1, h2, -, -, h6, -⟩ := Cond.codeWith_spec h
  cases Option.some.inj (hn9.symm.trans B.named)
  cases Option.some.inj (h1.symm.trans B.method)
  cases Option.some.inj (h2.symm.trans (Stand.of_body B).code)
  rw [← h6, table_eq]
end Bodies
end VXA
/-! ===== END ===== -/
/-! ===== BEGIN a static call of a method with an exception table ===== -/
section VXS
variable {p : Program} {l : Launch} {e : Env} {R : Room} {s : State} {m : MethodId} {args : Array Value} {below : List Frame} {meth : Method} {c : Code} {T : State} {H : Heap} {locs : List Loc} {cells slots : Nat}
abbrev vx_CSW (R : Room) (s : State) (args : Array Value) (own : String) (index : Nat) (y : MethodName) (bytes : ByteArray) (maxL : Nat) (ret : Option FieldType) (hh : List (Nat × Nat × Nat × Nat)) (ws : List Cond) (rm : Room) (mc ms n : Nat) : Prop :=
  (rm.cells = mc ∧ rm.slots = ms ∧ rm.frames + 1 ≤ R.frames ∧ 8 + (maxL + 11) + rm.locals ≤ R.locals ∧ (∀ w ∈ ws, ∀ (a' : Array Value) (U : State), s.WarmedH U.vm → w.before a' U = true) ∧ Cond.codeWith y bytes maxL ret hh ∈ ws) ∧
  (Cond.codeWith y bytes maxL ret hh).before args s = true ∧ (Cond.initialized y.cls).before args s = true ∧ (y.cls ≠ "java/lang/invoke/MethodHandle" ∧ y.cls ≠ "java/lang/invoke/VarHandle") ∧
  (∀ sig, parseMethodDescriptor y.desc = some sig → n = sig.parameters.length) ∧ (Cond.methodLink own index y).before args s = true ∧ (Cond.static y).before args s = true
theorem vx_cwSW {own : String} {index maxL mc ms : Nat} {y : MethodName} {bytes : ByteArray} {ret : Option FieldType} {hh : List (Nat × Nat × Nat × Nat)} {Ts ws ws' : List Cond} {rm : Room} (n : Nat) (ht : ∀ w ∈ Ts, w.before args s = true) (hT : GoodIn Ts (va_wsS own index y ws)) (hw : ws = Cond.codeWith y bytes maxL ret hh :: ws') (hrc : rm.cells = mc) (hrs : rm.slots = ms)
    (hd : y.cls ≠ "java/lang/invoke/MethodHandle" ∧ y.cls ≠ "java/lang/invoke/VarHandle" ∧ (parseMethodDescriptor y.desc).map (fun d => d.parameters.length) = some n) (hR : rm.frames + 1 ≤ R.frames ∧ 8 + (maxL + 11) + rm.locals ≤ R.locals) :
    vx_CSW R s args own index y bytes maxL ret hh ws rm mc ms n := by
  have ok : ∀ w ∈ va_wsS own index y ws, w.before args s = true := fun w h => ht w (hT w h).1
  have hG : GoodIn Ts ws := fun w h => hT w (by unfold va_wsS; exact List.mem_append_right _ h)
  have hc : Cond.codeWith y bytes maxL ret hh ∈ ws := by rw [hw]; exact List.mem_cons_self
  refine ⟨⟨hrc, hrs, hR.1, hR.2, pay_in ht hG, hc⟩, ht _ (hG _ hc).1, ok _ (by simp [va_wsS]), ⟨hd.1, hd.2.1⟩, fun sig h => ?_, ok _ (by simp [va_wsS]), ok _ (by simp [va_wsS])⟩
  have h2 := hd.2.2
  rw [h] at h2
  exact (Option.some.inj h2).symm
theorem vx_callSW (X : Stand p l e R s m args below meth c T locs cells slots) (hexec : p.tables.exec = Jvm.exec) {own : String} {index : Nat} {y : MethodName} {bytes : ByteArray} {maxL : Nat} {ret : Option FieldType} {hh : List (Nat × Nat × Nat × Nat)}
    (hown : s.vm.findClass own = some m.cls) (hlink : (Cond.methodLink own index y).before args s = true) (hstat : (Cond.static y).before args s = true) (hinit : (Cond.initialized y.cls).before args s = true)
    (hcode : (Cond.codeWith y bytes maxL ret hh).before args s = true) (hy : y.cls ≠ "java/lang/invoke/MethodHandle" ∧ y.cls ≠ "java/lang/invoke/VarHandle")
    {W9 : Nat} {Pre : Pt → Array Value → Prop} {Post : Pt → Array Value → Option Value → Pt → Prop} (hK : Back l R p e below s args y 3 W9 Pre Post)
    {g : JFrame} (hg : g.method = m) (hsize : g.locals.size = c.maxLocals) {argsL rest : List Value} (hlen : ∀ sig, parseMethodDescriptor y.desc = some sig → argsL.length = sig.parameters.length)
    (hstack : g.stack = argsL.reverse ++ rest) (hW : 2 * g.monitorRoom + (rest.map fun v => v.category).sum ≤ W9) (hdg : decode c.code g.pc = .ok (.invokestatic index, 3))
    (hpre : ∀ vm₁, s.WarmedH vm₁ → Pre ⟨T.setVm vm₁, locs, cells, slots⟩ argsL.toArray) :
    ∃ (v : Option Value) (vm₁ : Vm) (B : Pt), s.WarmedH vm₁ ∧ Stand p l e R s m args below meth c B.U B.locs B.cells B.slots ∧ Post ⟨T.setVm vm₁, locs, cells, slots⟩ argsL.toArray v B ∧
      ∀ target, Steps p.tables e below (B.U.setTop { g with pc := g.pc + 3, stack := v.toList ++ rest }) target → Steps p.tables e below (T.setTop g) target := by
  obtain ⟨mk, methM, cM, hnamed, hmethM, -, -, -, -, -, -, hsigM⟩ := Cond.codeWith_spec hcode
  have hstatic : methM.isStatic = true := Cond.static_spec hnamed hmethM hstat
  obtain ⟨kP, hkP, -⟩ := className_of_methodNamed hnamed
  have hinitP : kP.init = .initialized := Cond.initialized_spec (findClass_of_methodNamed hnamed) hkP hinit
  obtain ⟨vm₁, X₁, hstep₁⟩ := X.invokestatic hexec hown hlink hnamed hmethM hstatic hkP hinitP hy (g := g) hg (argsL := argsL) (rest := rest) (hlen _ hsigM) hstack hdg
  obtain ⟨v, B, X', hpost, hsteps⟩ := hK m meth c ⟨T.setVm vm₁, locs, cells, slots⟩ { g with stack := rest } (.invokestatic index) mk argsL.toArray X₁ hg hsize hdg hW (X₁.named hnamed) (hpre vm₁ X₁.warmed)
  exact ⟨v, vm₁, B, X₁.warmed, X', hpost, fun target h => hstep₁ _ fun acts => by rw [doInvoke_state]; exact hsteps.trans h⟩
theorem vx_runSW {y : MethodName} {bytes cc : ByteArray} {maxL nL mc ms n index : Nat} {ret : Option FieldType} {hh : List (Nat × Nat × Nat × Nat)} {ws : List Cond} {rm : Room} {Pc : Array Value → State → Prop} {Qc : Array Value → State → Outcome → State → Prop} {free : Addr → Prop} {Ts : List Cond} {own : String} {As rest : List Value} {g : JFrame}
    (S : CallFix p m c cc nL s args Ts own) (hM : Met l y ws rm Pc Qc mc ms free) (cw : vx_CSW R s args own index y bytes maxL ret hh ws rm mc ms n) (hp : PreS s H Pc As)
    (hg : g.method = m) (hn : As.length = n) (hsize : g.locals.size = nL) (hstack : g.stack = As.reverse ++ rest) (hW : 2 * g.monitorRoom + (rest.map fun v => v.category).sum ≤ 8) (hdg : decode cc g.pc = .ok (.invokestatic index, 3)) (hf : cells + mc ≤ R.cells ∧ slots + ms ≤ R.slots) :
    va_Run p l e R s m args below meth c H locs cells slots mc ms g rest (Qc As.toArray) (free) := by
  obtain ⟨⟨hrc, hrs, hfr, hlo, hws, hcw⟩, hcode, hini, hy, hlen, hl, hstt⟩ := cw
  have hK : Back l R p e below s args y 3 8 (PreOf R mc ms Pc) (PostOf Qc mc ms free) := va_backW (hh := hh) (bytes := bytes) (maxL := maxL) (ret := ret) hM hp.1 hrc hrs hfr hlo hws hcw (fun a' U hW => word_at hW (Or.inl (by first | rfl | simp [Cond.onTables, Cond.keeps, Cond.steady])) hini)
  obtain ⟨hx, hb, hml, ho, -⟩ := S
  intro T hT X
  obtain ⟨v, vm₁, ⟨U', l2, c2, s2⟩, hW₁, X', ⟨g', mk, t, L, e1, e2, hq, h1, hL, h2, h3⟩, st⟩ := vx_callSW X hx (hh := hh) (bytes := bytes) (maxL := maxL) (ret := ret) ho hl hstt hini hcode hy hK hg (hsize.trans hml.symm) (argsL := As) (rest := rest) (fun sig h => hn.trans (hlen sig h)) hstack hW (by rw [hb]; exact hdg)
    (fun vm₁ hW₁ => ⟨hf.1, hf.2, hp.2 (T.setVm vm₁) hT hW₁⟩)
  dsimp only [Pt.U, Pt.locs, Pt.cells, Pt.slots] at X' e1 e2 h1 h2 h3 st
  subst h1; subst h2; subst h3
  exact ⟨v, (T.setVm vm₁).calling g' mk As.toArray, t, U', L, hT, X', hL, e1, e2, hq, st⟩
/-- not caught here, past rows that name other classes: it goes on to the caller -/
theorem vx_outP {p : Program} {l : Launch} {e : Env} {R : Room} {s : State} {m : MethodId} {args : Array Value} {below : List Frame} {meth : Method} {c : Code} {H : Heap} {locs : List Loc} {cells slots : Nat} {free : Addr → Prop} {ls : Array Slot} {rest : List Value} {Qc : Array Value → State → Outcome → State → Prop} {XC : String → State → State → Prop}
    {pc : Nat} {own E : String} {ce : Cell} {q : Addr} {mc ms : Nat} (hown : s.vm.findClass own = some m.cls) (hlocks : meth.locks = false)
    (hpass : ∀ z ∈ c.exceptionTable.toList, covers z pc = false ∨ (z.catchType ≠ 0 ∧ ∃ nm : String, (Cond.classLink own z.catchType nm).before args s = true ∧ va_Nc E nm s)) (hcell : H[q]? = some ce) (hv : ce.vm = .none) (hcl : s.vm.findClass E = some ce.cls)
    (hx : ∀ t : State, t.heap = H → s.vm.Alike t.vm → XC E s t) (hf : ∀ z ∈ locs, free z.base) (hc : cells ≤ mc) (hs : slots ≤ ms) :
    vx_W p l e R s m args below meth c H locs cells slots (vx_MQ below Qc XC args s mc ms free) (F0 m pc ls rest) q := by
  intro T hT X
  have hpl : e.platform.magicAccessors = ({} : Platform).magicAccessors := by rw [X.admits.platform]
  obtain ⟨vm', hW', X', st⟩ := X.outThrough hlocks q (g := F0 m pc ls rest) rfl rfl rfl (cell := ce) (by rw [hT]; exact hcell) (by rw [hv]; rfl)
    (by obtain ⟨k9, h9, -⟩ := Vm.findClass_spec hcl; exact ⟨k9, h9⟩) (fun z hz => by
      rcases hpass z hz with h | ⟨hz0, nm, hl1, hn1⟩
      · exact Or.inl h
      · obtain ⟨c6, hc6, hcl6⟩ := Cond.classLink_spec hown hl1 e.platform hpl
        obtain ⟨a8, b8, h1, h2, h3⟩ := hn1
        cases Option.some.inj (h1.symm.trans hcl)
        cases Option.some.inj (h2.symm.trans hc6)
        exact Or.inr ⟨hz0, _, hcl6, h3⟩)
  obtain ⟨g₀, hfr⟩ := X'.frames_eq
  have hcell9 : ((T.setVm vm').setFrames (.throwing q :: below)).heap[q]? = some ce := by
    show T.heap[q]? = some ce
    rw [hT]; exact hcell
  have hend : Ended ((T.setVm vm').setFrames (.throwing q :: below)) below (.threw q) := State.frames_setFrames _ (State.cur_lt_of_frames hfr)
  refine ⟨(T.setVm vm').setFrames (.throwing q :: below), ?_, .threw q, X'.here.running, hend, Or.inr ⟨q, rfl, E, ce, locs, hx _ hT (X'.ends _).1.alike, hcell9, hv, hcl, (X'.ends _).1, (X'.ends _).2.mono hc hs, hf⟩⟩
  rw [X.pushThrowing_eq]
  exact st
/-- a thing of a world lies in the heap -/
theorem vx_lt {D : va_G} {cl : List vw_C} {ws : va_W} {H1 : Heap} (h : va_P D cl ws H1) {k : Nat} {q : Nat × va_E} (hk : ws[k]? = some q) : q.1 < H1.size := (h k q hk).lt
end VXS
/-! ===== END ===== -/
/-! ===== BEGIN methods with a table of their own: called by a name, returning or throwing ===== -/
section VXH
/-! vx_backW, vx_callVX, vx_callSX, vx_callVW, vx_runVW, vx_runVX, vx_runSX, vx_ofWH follow the same proofs as their sisters above (Free/Laws.lean, Shelf42/LK1.lean); vx_outP calls Shelf42/NT130.lean (outThrough). -/
section
variable {l : Launch} {R : Room} {p : Program} {e : Env} {below : List Frame} {s : State} {sargs : Array Value} {y : MethodName} {len W9 : Nat}
theorem vx_backW {ws : List Cond} {rm : Room} {Pc : Array Value → State → Prop} {Qc : Array Value → State → Outcome → State → Prop} {XC : String → State → State → Prop} {mc ms : Nat} {free : Addr → Prop} {bytes : ByteArray} {maxL : Nat} {ret : Option FieldType} {hh : List (Nat × Nat × Nat × Nat)}
    (hM : vx_Met l y ws rm Pc Qc XC mc ms free) (hblind : FrameBlind Pc) (hrc : rm.cells = mc) (hrs : rm.slots = ms)
    (hframes : rm.frames + 1 ≤ R.frames) (hlocals : W9 + (maxL + 11) + rm.locals ≤ R.locals)
    (hws : ∀ w ∈ ws, ∀ a' U, s.WarmedH U.vm → w.before a' U = true) (hcode : Cond.codeWith y bytes maxL ret hh ∈ ws) (hinit : ∀ a' U, s.WarmedH U.vm → (Cond.initialized y.cls).before a' U = true) :
    vx_Back l R p e below s sargs y len W9 (PreOf R mc ms Pc) (PostOf Qc mc ms free) (vx_Post XC mc ms free) := by
  intro m meth c A g ig mk a X hg hsize hdg hW hn hp
  have h1 : (headSpec ws rm).pre.before a A.U = true := atoms_intro fun w hw => hws w hw _ _ X.warmed
  have h2 : (Cond.codeWith y bytes maxL ret hh).before a A.U = true := hws _ hcode _ _ X.warmed
  have h3 : (Cond.initialized y.cls).before a A.U = true := hinit _ _ X.warmed
  have h4 : A.cells + (headSpec ws rm).room.cells ≤ R.cells := by rw [show (headSpec ws rm).room.cells = mc from hrc]; exact hp.1
  have h5 : A.slots + (headSpec ws rm).room.slots ≤ R.slots := by rw [show (headSpec ws rm).room.slots = ms from hrs]; exact hp.2.1
  have hPc : Pc a (A.U.calling g mk a) := hblind _ _ _ _ hp.2.2
  obtain ⟨U, Ls, c0, s0⟩ := A
  dsimp only [Pt.U, Pt.locs, Pt.cells, Pt.slots] at h1 h2 h3 h4 h5 X hn hPc ⊢
  obtain ⟨m9, methY, cY, hn9, hmY, hcY, -, hlY, -⟩ := Cond.codeWith_spec h2
  cases Option.some.inj (hn9.symm.trans hn)
  obtain ⟨kY, hkY, -⟩ := className_of_methodNamed hn
  have hinitY : kY.init = .initialized := Cond.initialized_spec (findClass_of_methodNamed hn) hkY h3
  have h : At U g.method c below := by rw [hg]; exact X.here
  have hlocals9 : W9 + (maxL + 11) + (headSpec ws rm).room.locals ≤ R.locals := hlocals
  have happ : (headSpec ws rm).appliesLoose y e.platform (U.calling g mk a) = true :=
    Spec.appliesLoose_calling (g := g) h hdg hn hkY hinitY
      (X.room_calling (g := g) (R' := (headSpec ws rm).room) hsize hmY hcY hframes (by rw [hlY]; omega) h4 h5) h1
  obtain ⟨mid, hmid⟩ := h.above
  have hfr : (U.setTop g).frames = (.java g :: mid) ++ below := by rw [State.frames_setTop' g h.top, hmid]; rfl
  obtain ⟨o, s₂, hsteps, -, hend, hq⟩ := Steps.callFree hM p X.admits X.cas X.clock (acts := []) hfr happ hPc trivial
  have hq' : vx_Q Qc XC mc ms free a (U.calling g mk a) o s₂ := hq
  rw [State.frames_setTop' g h.top] at hend
  obtain ⟨g₀, hg0⟩ := Option.isSome_iff_exists.mp h.top
  obtain ⟨r, hr⟩ := State.topJava?_eq_some.mp hg0
  have hr' : (({ U with heap := s₂.heap, slotsUsed := s₂.slotsUsed } : State).setVm s₂.vm).frames = .java g₀ :: r := hr
  rcases hq' with ⟨hqc, L, hfe, hL⟩ | ⟨q, rfl, E, ce, L, hx, hce, hcv, hcl, hW₂, hsm, hL⟩
  · obtain ⟨⟨v, rfl⟩, hW₂, e2, q2, q3, q4, q5, q6⟩ := id hfe
    have e3 : s₂ = ({ (U.calling g mk a).setFrames s₂.frames with heap := s₂.heap, slotsUsed := s₂.slotsUsed } : State).setVm s₂.vm := by
      have : s₂ = ({ s₂ with vm := (U.calling g mk a).vm } : State).setVm s₂.vm := rfl
      rw [e2] at this
      exact this
    obtain ⟨c₂, i₂, len₂, hc₂, hd₂, hf₂⟩ := hend
    have hW' : U.WarmedH s₂.vm := hW₂
    have hcc : c₂ = c := by
      have h1 : s₂.code? g.method = U.code? g.method := by
        rw [State.code?_eq, State.code?_eq, hW'.alike.method?]
      exact Option.some.inj (hc₂.symm.trans (h1.trans h.code))
    subst hcc
    have hlen : len₂ = len := by rw [hdg] at hd₂; cases hd₂; rfl
    subst hlen
    have hs₂ : s₂ = (({ U with heap := s₂.heap, slotsUsed := s₂.slotsUsed } : State).setVm s₂.vm).setTop { g with pc := g.pc + len₂, stack := v.toList ++ g.stack } := by
      refine e3.trans ?_
      rw [hf₂, State.calling_eq h.top, State.setFrames_setFrames, State.setTop_of_frames _ hr', hr]
      rfl
    have hsame : U.sameButNew ({ U with heap := s₂.heap, slotsUsed := s₂.slotsUsed } : State) L mc ms := by
      refine ⟨?_, q2, q3, q4, q5, q6⟩
      obtain ⟨t, ht, -⟩ := State.frames_cons hr
      show ({ U with heap := s₂.heap, slotsUsed := s₂.slotsUsed } : State) = { U.setFrames U.frames with heap := s₂.heap, slotsUsed := s₂.slotsUsed }
      rw [State.setFrames_self ht]
    subst hg
    refine Or.inl ⟨v, ⟨(({ U with heap := s₂.heap, slotsUsed := s₂.slotsUsed } : State).setVm s₂.vm), Ls ++ L, c0 + mc, s0 + ms⟩,
      ⟨X.admits, X.cas, X.clock, X.frames, X.room, X.hears, X.method, X.code, (X.here.setHeapUsed s₂.heap s₂.slotsUsed).setVm hW'.alike, X.tail, State.WarmedH.trans X.warmed hW', X.limits, X.bytes, X.same.trans (hsame.setVm s.vm)⟩,
      ⟨g, mk, s₂, L, rfl, rfl, hqc, rfl, hL, rfl, rfl⟩, ?_⟩
    show Steps p.tables e below _ ((({ U with heap := s₂.heap, slotsUsed := s₂.slotsUsed } : State).setVm s₂.vm).setTop { g with pc := g.pc + len₂, stack := v.toList ++ g.stack })
    rw [← hs₂]
    exact hsteps
  · obtain ⟨e2, q2, q3, q4, q5, q6⟩ := id hsm
    have e3 : s₂ = ({ (U.calling g mk a).setFrames s₂.frames with heap := s₂.heap, slotsUsed := s₂.slotsUsed } : State).setVm s₂.vm := by
      have : s₂ = ({ s₂ with vm := (U.calling g mk a).vm } : State).setVm s₂.vm := rfl
      rw [e2] at this
      exact this
    have hf₂ : s₂.frames = .throwing q :: .java g :: U.frames.tail := hend
    have hW' : U.WarmedH s₂.vm := hW₂
    have hs₂ : s₂ = ((({ U with heap := s₂.heap, slotsUsed := s₂.slotsUsed } : State).setVm s₂.vm).setTop g).pushFrame (.throwing q) := by
      refine e3.trans ?_
      rw [hf₂, State.calling_eq h.top, State.setFrames_setFrames, State.pushFrame, State.frames_setTop _ hr', State.setTop_of_frames _ hr', State.setFrames_setFrames, hr]
      rfl
    have hsame : U.sameButNew ({ U with heap := s₂.heap, slotsUsed := s₂.slotsUsed } : State) L mc ms := by
      refine ⟨?_, q2, q3, q4, q5, q6⟩
      obtain ⟨t, ht, -⟩ := State.frames_cons hr
      show ({ U with heap := s₂.heap, slotsUsed := s₂.slotsUsed } : State) = { U.setFrames U.frames with heap := s₂.heap, slotsUsed := s₂.slotsUsed }
      rw [State.setFrames_self ht]
    subst hg
    refine Or.inr ⟨q, ⟨(({ U with heap := s₂.heap, slotsUsed := s₂.slotsUsed } : State).setVm s₂.vm), Ls ++ L, c0 + mc, s0 + ms⟩,
      ⟨X.admits, X.cas, X.clock, X.frames, X.room, X.hears, X.method, X.code, (X.here.setHeapUsed s₂.heap s₂.slotsUsed).setVm hW'.alike, X.tail, State.WarmedH.trans X.warmed hW', X.limits, X.bytes, X.same.trans (hsame.setVm s.vm)⟩,
      ⟨g, mk, s₂, L, E, ce, rfl, rfl, hx, hce, hcv, hcl, rfl, hL, rfl, rfl⟩, ?_⟩
    show Steps p.tables e below _ (((({ U with heap := s₂.heap, slotsUsed := s₂.slotsUsed } : State).setVm s₂.vm).setTop g).pushFrame (.throwing q))
    rw [← hs₂]
    exact hsteps
end
variable {p : Program} {l : Launch} {e : Env} {R : Room} {s : State} {m : MethodId} {args : Array Value} {below : List Frame} {meth : Method} {c : Code} {T : State} {H : Heap} {locs : List Loc} {cells slots : Nat}
theorem vx_callVX (X : Stand p l e R s m args below meth c T locs cells slots) (hexec : p.tables.exec = Jvm.exec) {own C : String} {index : Nat} {y : MethodName} {bytes : ByteArray} {maxL : Nat} {ret : Option FieldType} {hh : List (Nat × Nat × Nat × Nat)}
    (hown : s.vm.findClass own = some m.cls) (hlink : (Cond.methodLink own index y).before args s = true) (hinst : (Cond.instanceMethod y).before args s = true) (hsel : (Cond.selects C y y).before args s = true)
    (hcode : (Cond.codeWith y bytes maxL ret hh).before args s = true) (hy : y.cls ≠ "java/lang/invoke/MethodHandle" ∧ y.cls ≠ "java/lang/invoke/VarHandle")
    {W9 : Nat} {Pre : Pt → Array Value → Prop} {Post : Pt → Array Value → Option Value → Pt → Prop} {PostX : Pt → Array Value → Addr → Pt → Prop} (hK : vx_Back l R p e below s args y 3 W9 Pre Post PostX)
    {b : Addr} {cellB : Cell} (hcell : T.heap[b]? = some cellB) (hobj : cellB.vm.isStatics = false) (hcls : s.vm.findClass C = some cellB.cls)
    {g : JFrame} (hg : g.method = m) (hsize : g.locals.size = c.maxLocals) {argsL rest : List Value} (hlen : ∀ sig, parseMethodDescriptor y.desc = some sig → argsL.length = sig.parameters.length)
    (hstack : g.stack = argsL.reverse ++ .ref b :: rest) (hW : 2 * g.monitorRoom + (rest.map fun v => v.category).sum ≤ W9) (hdg : decode c.code g.pc = .ok (.invokevirtual index, 3))
    (hpre : ∀ vm₁, s.WarmedH vm₁ → Pre ⟨T.setVm vm₁, locs, cells, slots⟩ (Value.ref b :: argsL).toArray) :
    (∃ (v : Option Value) (vm₁ : Vm) (B : Pt), s.WarmedH vm₁ ∧ Stand p l e R s m args below meth c B.U B.locs B.cells B.slots ∧ Post ⟨T.setVm vm₁, locs, cells, slots⟩ (Value.ref b :: argsL).toArray v B ∧
      ∀ target, Steps p.tables e below (B.U.setTop { g with pc := g.pc + 3, stack := v.toList ++ rest }) target → Steps p.tables e below (T.setTop g) target) ∨
    (∃ (q : Addr) (vm₁ : Vm) (B : Pt), s.WarmedH vm₁ ∧ Stand p l e R s m args below meth c B.U B.locs B.cells B.slots ∧ PostX ⟨T.setVm vm₁, locs, cells, slots⟩ (Value.ref b :: argsL).toArray q B ∧
      Steps p.tables e below (T.setTop g) ((B.U.setTop { g with stack := rest }).pushFrame (.throwing q))) := by
  obtain ⟨mk, methM, hnamed, hmethM, hstM, habM⟩ := Cond.instanceMethod_spec hinst
  obtain ⟨m8, methM', cM, hn8, hmethM', -, -, -, -, -, -, hsigM⟩ := Cond.codeWith_spec hcode
  cases Option.some.inj (hn8.symm.trans hnamed)
  cases hmethM.symm.trans hmethM'
  obtain ⟨c2, r2, m2, q1, q2, q3, q4, kP, hkP, hkPi⟩ := Cond.selects_spec hsel
  cases hcls.symm.trans q1
  cases (State.methodFound?_of_named hnamed hy).symm.trans q2
  cases hnamed.symm.trans q3
  have hselP : selectMethod e.platform s.vm cellB.cls mk = .method mk := by rw [Launch.admits_selectMethod X.admits]; exact q4
  obtain ⟨vm₁, X₁, hstep₁⟩ := X.invokevirtual hexec hown hlink hnamed hmethM hstM hkP hkPi hy (a := b) (cell := cellB) hcell
    (fun z h => by rw [h] at hobj; cases hobj) hselP hmethM habM hkP hkPi (g := g) hg (argsL := argsL) (rest := rest) (hlen _ hsigM) hstack hdg
  rcases hK m meth c ⟨T.setVm vm₁, locs, cells, slots⟩ { g with stack := rest } (.invokevirtual index) mk (Value.ref b :: argsL).toArray X₁ hg hsize hdg hW (X₁.named hnamed) (hpre vm₁ X₁.warmed) with ⟨v, B, X', hpost, hsteps⟩ | ⟨q, B, X', hpost, hsteps⟩
  · exact Or.inl ⟨v, vm₁, B, X₁.warmed, X', hpost, fun target h => hstep₁ _ fun acts => by rw [doInvoke_state]; exact hsteps.trans h⟩
  · exact Or.inr ⟨q, vm₁, B, X₁.warmed, X', hpost, hstep₁ _ fun acts => by rw [doInvoke_state]; exact hsteps⟩
theorem vx_callSX (X : Stand p l e R s m args below meth c T locs cells slots) (hexec : p.tables.exec = Jvm.exec) {own : String} {index : Nat} {y : MethodName} {bytes : ByteArray} {maxL : Nat} {ret : Option FieldType} {hh : List (Nat × Nat × Nat × Nat)}
    (hown : s.vm.findClass own = some m.cls) (hlink : (Cond.methodLink own index y).before args s = true) (hstat : (Cond.static y).before args s = true) (hinit : (Cond.initialized y.cls).before args s = true)
    (hcode : (Cond.codeWith y bytes maxL ret hh).before args s = true) (hy : y.cls ≠ "java/lang/invoke/MethodHandle" ∧ y.cls ≠ "java/lang/invoke/VarHandle")
    {W9 : Nat} {Pre : Pt → Array Value → Prop} {Post : Pt → Array Value → Option Value → Pt → Prop} {PostX : Pt → Array Value → Addr → Pt → Prop} (hK : vx_Back l R p e below s args y 3 W9 Pre Post PostX)
    {g : JFrame} (hg : g.method = m) (hsize : g.locals.size = c.maxLocals) {argsL rest : List Value} (hlen : ∀ sig, parseMethodDescriptor y.desc = some sig → argsL.length = sig.parameters.length)
    (hstack : g.stack = argsL.reverse ++ rest) (hW : 2 * g.monitorRoom + (rest.map fun v => v.category).sum ≤ W9) (hdg : decode c.code g.pc = .ok (.invokestatic index, 3))
    (hpre : ∀ vm₁, s.WarmedH vm₁ → Pre ⟨T.setVm vm₁, locs, cells, slots⟩ argsL.toArray) :
    (∃ (v : Option Value) (vm₁ : Vm) (B : Pt), s.WarmedH vm₁ ∧ Stand p l e R s m args below meth c B.U B.locs B.cells B.slots ∧ Post ⟨T.setVm vm₁, locs, cells, slots⟩ argsL.toArray v B ∧
      ∀ target, Steps p.tables e below (B.U.setTop { g with pc := g.pc + 3, stack := v.toList ++ rest }) target → Steps p.tables e below (T.setTop g) target) ∨
    (∃ (q : Addr) (vm₁ : Vm) (B : Pt), s.WarmedH vm₁ ∧ Stand p l e R s m args below meth c B.U B.locs B.cells B.slots ∧ PostX ⟨T.setVm vm₁, locs, cells, slots⟩ argsL.toArray q B ∧
      Steps p.tables e below (T.setTop g) ((B.U.setTop { g with stack := rest }).pushFrame (.throwing q))) := by
  obtain ⟨mk, methM, cM, hnamed, hmethM, -, -, -, -, -, -, hsigM⟩ := Cond.codeWith_spec hcode
  have hstatic : methM.isStatic = true := Cond.static_spec hnamed hmethM hstat
  obtain ⟨kP, hkP, -⟩ := className_of_methodNamed hnamed
  have hinitP : kP.init = .initialized := Cond.initialized_spec (findClass_of_methodNamed hnamed) hkP hinit
  obtain ⟨vm₁, X₁, hstep₁⟩ := X.invokestatic hexec hown hlink hnamed hmethM hstatic hkP hinitP hy (g := g) hg (argsL := argsL) (rest := rest) (hlen _ hsigM) hstack hdg
  rcases hK m meth c ⟨T.setVm vm₁, locs, cells, slots⟩ { g with stack := rest } (.invokestatic index) mk argsL.toArray X₁ hg hsize hdg hW (X₁.named hnamed) (hpre vm₁ X₁.warmed) with ⟨v, B, X', hpost, hsteps⟩ | ⟨q, B, X', hpost, hsteps⟩
  · exact Or.inl ⟨v, vm₁, B, X₁.warmed, X', hpost, fun target h => hstep₁ _ fun acts => by rw [doInvoke_state]; exact hsteps.trans h⟩
  · exact Or.inr ⟨q, vm₁, B, X₁.warmed, X', hpost, hstep₁ _ fun acts => by rw [doInvoke_state]; exact hsteps⟩
theorem vx_callVW (X : Stand p l e R s m args below meth c T locs cells slots) (hexec : p.tables.exec = Jvm.exec) {own C : String} {index : Nat} {y : MethodName} {bytes : ByteArray} {maxL : Nat} {ret : Option FieldType} {hh : List (Nat × Nat × Nat × Nat)}
    (hown : s.vm.findClass own = some m.cls) (hlink : (Cond.methodLink own index y).before args s = true) (hinst : (Cond.instanceMethod y).before args s = true) (hsel : (Cond.selects C y y).before args s = true)
    (hcode : (Cond.codeWith y bytes maxL ret hh).before args s = true) (hy : y.cls ≠ "java/lang/invoke/MethodHandle" ∧ y.cls ≠ "java/lang/invoke/VarHandle")
    {W9 : Nat} {Pre : Pt → Array Value → Prop} {Post : Pt → Array Value → Option Value → Pt → Prop} (hK : Back l R p e below s args y 3 W9 Pre Post)
    {b : Addr} {cellB : Cell} (hcell : T.heap[b]? = some cellB) (hobj : cellB.vm.isStatics = false) (hcls : s.vm.findClass C = some cellB.cls)
    {g : JFrame} (hg : g.method = m) (hsize : g.locals.size = c.maxLocals) {argsL rest : List Value} (hlen : ∀ sig, parseMethodDescriptor y.desc = some sig → argsL.length = sig.parameters.length)
    (hstack : g.stack = argsL.reverse ++ .ref b :: rest) (hW : 2 * g.monitorRoom + (rest.map fun v => v.category).sum ≤ W9) (hdg : decode c.code g.pc = .ok (.invokevirtual index, 3))
    (hpre : ∀ vm₁, s.WarmedH vm₁ → Pre ⟨T.setVm vm₁, locs, cells, slots⟩ (Value.ref b :: argsL).toArray) :
    ∃ (v : Option Value) (vm₁ : Vm) (B : Pt), s.WarmedH vm₁ ∧ Stand p l e R s m args below meth c B.U B.locs B.cells B.slots ∧ Post ⟨T.setVm vm₁, locs, cells, slots⟩ (Value.ref b :: argsL).toArray v B ∧
      ∀ target, Steps p.tables e below (B.U.setTop { g with pc := g.pc + 3, stack := v.toList ++ rest }) target → Steps p.tables e below (T.setTop g) target := by
  obtain ⟨mk, methM, hnamed, hmethM, hstM, habM⟩ := Cond.instanceMethod_spec hinst
  obtain ⟨m8, methM', cM, hn8, hmethM', -, -, -, -, -, -, hsigM⟩ := Cond.codeWith_spec hcode
  cases Option.some.inj (hn8.symm.trans hnamed)
  cases hmethM.symm.trans hmethM'
  obtain ⟨c2, r2, m2, q1, q2, q3, q4, kP, hkP, hkPi⟩ := Cond.selects_spec hsel
  cases hcls.symm.trans q1
  cases (State.methodFound?_of_named hnamed hy).symm.trans q2
  cases hnamed.symm.trans q3
  have hselP : selectMethod e.platform s.vm cellB.cls mk = .method mk := by rw [Launch.admits_selectMethod X.admits]; exact q4
  obtain ⟨vm₁, X₁, hstep₁⟩ := X.invokevirtual hexec hown hlink hnamed hmethM hstM hkP hkPi hy (a := b) (cell := cellB) hcell
    (fun z h => by rw [h] at hobj; cases hobj) hselP hmethM habM hkP hkPi (g := g) hg (argsL := argsL) (rest := rest) (hlen _ hsigM) hstack hdg
  obtain ⟨v, B, X', hpost, hsteps⟩ := hK m meth c ⟨T.setVm vm₁, locs, cells, slots⟩ { g with stack := rest } (.invokevirtual index) mk (Value.ref b :: argsL).toArray X₁ hg hsize hdg hW (X₁.named hnamed) (hpre vm₁ X₁.warmed)
  exact ⟨v, vm₁, B, X₁.warmed, X', hpost, fun target h => hstep₁ _ fun acts => by rw [doInvoke_state]; exact hsteps.trans h⟩
abbrev vx_CVW (R : Room) (s : State) (args : Array Value) (own C : String) (index : Nat) (y : MethodName) (bytes : ByteArray) (maxL : Nat) (ret : Option FieldType) (hh : List (Nat × Nat × Nat × Nat)) (ws : List Cond) (rm : Room) (mc ms n : Nat) : Prop :=
  (rm.cells = mc ∧ rm.slots = ms ∧ rm.frames + 1 ≤ R.frames ∧ 8 + (maxL + 11) + rm.locals ≤ R.locals ∧ (∀ w ∈ ws, ∀ (a' : Array Value) (U : State), s.WarmedH U.vm → w.before a' U = true) ∧ Cond.codeWith y bytes maxL ret hh ∈ ws) ∧
  (Cond.codeWith y bytes maxL ret hh).before args s = true ∧ (Cond.initialized y.cls).before args s = true ∧ (y.cls ≠ "java/lang/invoke/MethodHandle" ∧ y.cls ≠ "java/lang/invoke/VarHandle") ∧
  (∀ sig, parseMethodDescriptor y.desc = some sig → n = sig.parameters.length) ∧ (Cond.methodLink own index y).before args s = true ∧ (Cond.instanceMethod y).before args s = true ∧ (Cond.selects C y y).before args s = true
theorem vx_cwVW {own C : String} {index maxL mc ms : Nat} {y : MethodName} {bytes : ByteArray} {ret : Option FieldType} {hh : List (Nat × Nat × Nat × Nat)} {Ts ws ws' : List Cond} {rm : Room} (n : Nat) (ht : ∀ w ∈ Ts, w.before args s = true) (hT : GoodIn Ts (wsV own index C y ws)) (hw : ws = Cond.codeWith y bytes maxL ret hh :: ws') (hrc : rm.cells = mc) (hrs : rm.slots = ms)
    (hd : y.cls = C ∧ y.cls ≠ "java/lang/invoke/MethodHandle" ∧ y.cls ≠ "java/lang/invoke/VarHandle" ∧ (parseMethodDescriptor y.desc).map (fun d => d.parameters.length) = some n) (hR : rm.frames + 1 ≤ R.frames ∧ 8 + (maxL + 11) + rm.locals ≤ R.locals) :
    vx_CVW R s args own C index y bytes maxL ret hh ws rm mc ms n := by
  obtain ⟨hC, hd⟩ := hd
  subst hC
  have ok : ∀ w ∈ wsV own index y.cls y ws, w.before args s = true := fun w h => ht w (hT w h).1
  have hG : GoodIn Ts ws := fun w h => hT w (by unfold wsV; exact List.mem_append_right _ h)
  have hc : Cond.codeWith y bytes maxL ret hh ∈ ws := by rw [hw]; exact List.mem_cons_self
  refine ⟨⟨hrc, hrs, hR.1, hR.2, pay_in ht hG, hc⟩, ht _ (hG _ hc).1, ok _ (by simp [wsV]), ⟨hd.1, hd.2.1⟩, fun sig h => ?_, ok _ (by simp [wsV]), ok _ (by simp [wsV]), ok _ (by simp [wsV])⟩
  have h2 := hd.2.2
  rw [h] at h2
  exact (Option.some.inj h2).symm
theorem vx_runVW {y : MethodName} {bytes cc : ByteArray} {maxL nL mc ms n index : Nat} {ret : Option FieldType} {hh : List (Nat × Nat × Nat × Nat)} {ws : List Cond} {rm : Room} {Pc : Array Value → State → Prop} {Qc : Array Value → State → Outcome → State → Prop} {free : Addr → Prop} {Ts : List Cond} {own C : String} {b : Addr} {As rest : List Value} {g : JFrame}
    (S : CallFix p m c cc nL s args Ts own) (hM : Met l y ws rm Pc Qc mc ms free) (cw : vx_CVW R s args own C index y bytes maxL ret hh ws rm mc ms n) (hp : PreV s H C b Pc As)
    (hg : g.method = m) (hn : As.length = n) (hsize : g.locals.size = nL) (hstack : g.stack = As.reverse ++ .ref b :: rest) (hW : 2 * g.monitorRoom + (rest.map fun v => v.category).sum ≤ 8) (hdg : decode cc g.pc = .ok (.invokevirtual index, 3)) (hf : cells + mc ≤ R.cells ∧ slots + ms ≤ R.slots) :
    va_Run p l e R s m args below meth c H locs cells slots mc ms g rest (Qc (Value.ref b :: As).toArray) free := by
  obtain ⟨⟨hrc, hrs, hfr, hlo, hws, hcw⟩, hcode, hini, hy, hlen, hl, hin, hse⟩ := cw
  have hK : Back l R p e below s args y 3 8 (PreOf R mc ms Pc) (PostOf Qc mc ms free) := va_backW (hh := hh) (bytes := bytes) (maxL := maxL) (ret := ret) hM hp.1 hrc hrs hfr hlo hws hcw (fun a' U hW => word_at hW (Or.inl (by first | rfl | simp [Cond.onTables, Cond.keeps, Cond.steady])) hini)
  obtain ⟨hx, hb, hml, ho, -⟩ := S
  obtain ⟨-, ⟨cellB, hcB, hoB, hclB⟩, hPc⟩ := hp
  intro T hT X
  obtain ⟨v, vm₁, ⟨U', l2, c2, s2⟩, hW₁, X', ⟨g', mk, t, L, e1, e2, hq, h1, hL, h2, h3⟩, st⟩ := vx_callVW X hx (C := C) (hh := hh) (bytes := bytes) (maxL := maxL) (ret := ret) ho hl hin hse hcode hy hK (by rw [hT]; exact hcB) hoB hclB hg (hsize.trans hml.symm) (argsL := As) (rest := rest) (fun sig h => hn.trans (hlen sig h)) hstack hW (by rw [hb]; exact hdg)
    (fun vm₁ hW₁ => ⟨hf.1, hf.2, hPc (T.setVm vm₁) hT hW₁⟩)
  dsimp only [Pt.U, Pt.locs, Pt.cells, Pt.slots] at X' e1 e2 h1 h2 h3 st
  subst h1; subst h2; subst h3
  exact ⟨v, (T.setVm vm₁).calling g' mk (Value.ref b :: As).toArray, t, U', L, hT, X', hL, e1, e2, hq, st⟩
section
variable {y : MethodName} {bytes cc : ByteArray} {maxL nL mc ms n index : Nat} {ret : Option FieldType} {ws : List Cond} {rm : Room} {Pc : Array Value → State → Prop} {Qc : Array Value → State → Outcome → State → Prop} {XC : String → State → State → Prop} {free : Addr → Prop} {Ts : List Cond} {own C : String} {b : Addr} {As rest : List Value} {g : JFrame}
theorem vx_runVX {hh : List (Nat × Nat × Nat × Nat)} (S : CallFix p m c cc nL s args Ts own) (hM : vx_Met l y ws rm Pc Qc XC mc ms free) (cw : vx_CVW R s args own C index y bytes maxL ret hh ws rm mc ms n) (hp : PreV s H C b Pc As)
    (hg : g.method = m) (hn : As.length = n) (hsize : g.locals.size = nL) (hstack : g.stack = As.reverse ++ .ref b :: rest) (hW : 2 * g.monitorRoom + (rest.map fun v => v.category).sum ≤ 8) (hdg : decode cc g.pc = .ok (.invokevirtual index, 3)) (hf : cells + mc ≤ R.cells ∧ slots + ms ≤ R.slots) :
    vx_Run p l e R s m args below meth c H locs cells slots mc ms g rest (Qc (Value.ref b :: As).toArray) XC free := by
  obtain ⟨⟨hrc, hrs, hfr, hlo, hws, hcw⟩, hcode, hini, hy, hlen, hl, hin, hse⟩ := cw
  have hK : vx_Back l R p e below s args y 3 8 (PreOf R mc ms Pc) (PostOf Qc mc ms free) (vx_Post XC mc ms free) := vx_backW (hh := hh) (bytes := bytes) (maxL := maxL) (ret := ret) hM hp.1 hrc hrs hfr hlo hws hcw (fun a' U hW => word_at hW (Or.inl (by first | rfl | simp [Cond.onTables, Cond.keeps, Cond.steady])) hini)
  obtain ⟨hx, hb, hml, ho, -⟩ := S
  obtain ⟨-, ⟨cellB, hcB, hoB, hclB⟩, hPc⟩ := hp
  intro T hT X
  rcases vx_callVX X hx (C := C) (hh := hh) (bytes := bytes) (maxL := maxL) (ret := ret) ho hl hin hse hcode hy hK (by rw [hT]; exact hcB) hoB hclB hg (hsize.trans hml.symm) (argsL := As) (rest := rest) (fun sig h => hn.trans (hlen sig h)) hstack hW (by rw [hb]; exact hdg)
    (fun vm₁ hW₁ => ⟨hf.1, hf.2, hPc (T.setVm vm₁) hT hW₁⟩) with ⟨v, vm₁, ⟨U', l2, c2, s2⟩, hW₁, X', ⟨g', mk, t, L, e1, e2, hq, h1, hL, h2, h3⟩, st⟩ | ⟨q, vm₁, ⟨U', l2, c2, s2⟩, hW₁, X', ⟨g', mk, t, L, E, ce, e1, e2, hq, hce, hcv, hcl, h1, hL, h2, h3⟩, st⟩
  · dsimp only [Pt.U, Pt.locs, Pt.cells, Pt.slots] at X' e1 e2 h1 h2 h3 st
    subst h1; subst h2; subst h3
    exact Or.inl ⟨v, (T.setVm vm₁).calling g' mk (Value.ref b :: As).toArray, t, U', L, hT, X', hL, e1, e2, hq, st⟩
  · dsimp only [Pt.U, Pt.locs, Pt.cells, Pt.slots] at X' e1 e2 h1 h2 h3 st hcl
    subst h1; subst h2; subst h3
    exact Or.inr ⟨q, (T.setVm vm₁).calling g' mk (Value.ref b :: As).toArray, t, U', L, E, ce, hT, X', hL, e1, e2, hq, hce, hcv, vx_cls hW₁ hcl, st⟩
theorem vx_runSX {hh : List (Nat × Nat × Nat × Nat)} (S : CallFix p m c cc nL s args Ts own) (hM : vx_Met l y ws rm Pc Qc XC mc ms free) (cw : vx_CSW R s args own index y bytes maxL ret hh ws rm mc ms n) (hp : PreS s H Pc As)
    (hg : g.method = m) (hn : As.length = n) (hsize : g.locals.size = nL) (hstack : g.stack = As.reverse ++ rest) (hW : 2 * g.monitorRoom + (rest.map fun v => v.category).sum ≤ 8) (hdg : decode cc g.pc = .ok (.invokestatic index, 3)) (hf : cells + mc ≤ R.cells ∧ slots + ms ≤ R.slots) :
    vx_Run p l e R s m args below meth c H locs cells slots mc ms g rest (Qc As.toArray) XC free := by
  obtain ⟨⟨hrc, hrs, hfr, hlo, hws, hcw⟩, hcode, hini, hy, hlen, hl, hstt⟩ := cw
  have hK : vx_Back l R p e below s args y 3 8 (PreOf R mc ms Pc) (PostOf Qc mc ms free) (vx_Post XC mc ms free) := vx_backW (hh := hh) (bytes := bytes) (maxL := maxL) (ret := ret) hM hp.1 hrc hrs hfr hlo hws hcw (fun a' U hW => word_at hW (Or.inl (by first | rfl | simp [Cond.onTables, Cond.keeps, Cond.steady])) hini)
  obtain ⟨hx, hb, hml, ho, -⟩ := S
  intro T hT X
  rcases vx_callSX X hx (hh := hh) (bytes := bytes) (maxL := maxL) (ret := ret) ho hl hstt hini hcode hy hK hg (hsize.trans hml.symm) (argsL := As) (rest := rest) (fun sig h => hn.trans (hlen sig h)) hstack hW (by rw [hb]; exact hdg)
    (fun vm₁ hW₁ => ⟨hf.1, hf.2, hp.2 (T.setVm vm₁) hT hW₁⟩) with ⟨v, vm₁, ⟨U', l2, c2, s2⟩, hW₁, X', ⟨g', mk, t, L, e1, e2, hq, h1, hL, h2, h3⟩, st⟩ | ⟨q, vm₁, ⟨U', l2, c2, s2⟩, hW₁, X', ⟨g', mk, t, L, E, ce, e1, e2, hq, hce, hcv, hcl, h1, hL, h2, h3⟩, st⟩
  · dsimp only [Pt.U, Pt.locs, Pt.cells, Pt.slots] at X' e1 e2 h1 h2 h3 st
    subst h1; subst h2; subst h3
    exact Or.inl ⟨v, (T.setVm vm₁).calling g' mk As.toArray, t, U', L, hT, X', hL, e1, e2, hq, st⟩
  · dsimp only [Pt.U, Pt.locs, Pt.cells, Pt.slots] at X' e1 e2 h1 h2 h3 st hcl
    subst h1; subst h2; subst h3
    exact Or.inr ⟨q, (T.setVm vm₁).calling g' mk As.toArray, t, U', L, E, ce, hT, X', hL, e1, e2, hq, hce, hcv, vx_cls hW₁ hcl, st⟩
end
end VXH
theorem vx_ofWH {l : Launch} {y : MethodName} {ws ws' : List Cond} {rm : Room} {Pc : Array Value → State → Prop} {Qc : Array Value → State → Outcome → State → Prop} {XC : String → State → State → Prop} {mc ms : Nat} {free : Addr → Prop} {cc : ByteArray} {maxL : Nat} {ret : Option FieldType} {hh : List (Nat × Nat × Nat × Nat)}
    (hy : plainName y.cls = true) (hw : ws = Cond.codeWith y cc maxL ret hh :: ws')
    (body : ∀ p e s m args below meth c s₁, BodyLoose p l y (headSpec ws rm) cc maxL ret e s m args below meth c s₁ → c.maxLocals = maxL → Pc args s →
      W p l e (headSpec ws rm).room s m args below meth c s.heap [] 0 0 (vx_MQ below Qc XC args s mc ms free) (entryFrame m args maxL)) : vx_Met l y ws rm Pc Qc XC mc ms free := by
  refine MetFree.of_bodyS (code := cc) (maxLocals := maxL) (ret := ret) hy ?_ ?_
  · intro args s m h hn
    obtain ⟨m9, meth, c, hn9, h1, h2, h3, h4, -, h5, h6, -⟩ := Cond.codeWith_spec (atoms_spec (ws := ws) h _ (by rw [hw]; exact List.mem_cons_self))
    cases hn.symm.trans hn9
    exact ⟨meth, c, h1, h2, h3, h4, h5, h6⟩
  · intro p e s m args below meth c s₁ B hml hP _
    have hh0 : s₁.heap = s.heap := by rw [B.state]; rfl
    obtain ⟨t, a1, o, b1, b2, b3⟩ := body p e s m args below meth c s₁ B hml hP s₁ hh0 (Stand.of_body B)
    exact ⟨t, o, a1, b1, b2, b3⟩
/-! ===== END ===== -/

/-! ===== BEGIN printed: names, fields, word lists, decode rows ===== -/
def RX0 : String := "FutexKernel$LockList"
def TX0 : u_T := fun k => match k with
  | 0 => ("FutexKernel$LockList", "addresses", "[I", true)
  | _ => ("FutexKernel$LockList", "size", "I", false)
def tyX0 : Nat → FieldType := fun k => match k with
  | 0 => .array .int
  | _ => .int
abbrev wsX00 : List Cond := u_ws RX0 TX0 2
theorem nmX0 : ∀ a, a < 2 → ∀ b, b < 2 → a ≠ b → (TX0 a).2.1 ≠ (TX0 b).2.1 := by decide +kernel
theorem tyX0_ok : ∀ k, k < 2 → parseFieldDescriptor (TX0 k).2.2.1 = some (tyX0 k) := by decide +kernel
abbrev cX0_init : ByteArray := prog_2_method_1_code
def yX0_init : MethodName := ⟨RX0, "<init>", "()V"⟩
abbrev cX0_addressAt : ByteArray := prog_2_method_2_code
def yX0_addressAt : MethodName := ⟨RX0, "addressAt", "(I)I"⟩
abbrev cX0_add : ByteArray := prog_2_method_3_code
def yX0_add : MethodName := ⟨RX0, "add", "(I)V"⟩
abbrev cX0_clear : ByteArray := prog_2_method_4_code
def yX0_clear : MethodName := ⟨RX0, "clear", "()V"⟩
abbrev cX0_drop : ByteArray := prog_2_method_5_code
def yX0_drop : MethodName := ⟨RX0, "drop", "(I)V"⟩
abbrev cX0_placeOf : ByteArray := prog_2_method_6_code
def yX0_placeOf : MethodName := ⟨RX0, "placeOf", "(I)I"⟩
def RX1 : String := "FutexKernel$Task"
def TX1 : u_T := fun k => match k with
  | 0 => ("FutexKernel$Task", "number", "I", true)
  | 1 => ("FutexKernel$Task", "held", "LFutexKernel$LockList;", true)
  | 2 => ("FutexKernel$Task", "state", "I", false)
  | 3 => ("FutexKernel$Task", "priority", "I", false)
  | 4 => ("FutexKernel$Task", "address", "I", false)
  | 5 => ("FutexKernel$Task", "mask", "I", false)
  | 6 => ("FutexKernel$Task", "deadline", "I", false)
  | 7 => ("FutexKernel$Task", "begun", "I", false)
  | 8 => ("FutexKernel$Task", "joined", "I", false)
  | 9 => ("FutexKernel$Task", "result", "I", false)
  | _ => ("FutexKernel$Task", "serial", "I", false)
def tyX1 : Nat → FieldType := fun k => match k with
  | 0 => .int
  | 1 => .object "FutexKernel$LockList"
  | 2 => .int
  | 3 => .int
  | 4 => .int
  | 5 => .int
  | 6 => .int
  | 7 => .int
  | 8 => .int
  | 9 => .int
  | _ => .int
abbrev wsX10 : List Cond := u_ws RX1 TX1 11
theorem nmX1 : ∀ a, a < 11 → ∀ b, b < 11 → a ≠ b → (TX1 a).2.1 ≠ (TX1 b).2.1 := by decide +kernel
theorem tyX1_ok : ∀ k, k < 11 → parseFieldDescriptor (TX1 k).2.2.1 = some (tyX1 k) := by decide +kernel
abbrev cX1_init : ByteArray := prog_3_method_1_code
def yX1_init : MethodName := ⟨RX1, "<init>", "(I)V"⟩
abbrev cX1_bit : ByteArray := prog_3_method_2_code
def yX1_bit : MethodName := ⟨RX1, "bit", "()I"⟩
abbrev cX1_isQueued : ByteArray := prog_3_method_3_code
def yX1_isQueued : MethodName := ⟨RX1, "isQueued", "()Z"⟩
abbrev cX1_isAheadOf : ByteArray := prog_3_method_4_code
def yX1_isAheadOf : MethodName := ⟨RX1, "isAheadOf", "(LFutexKernel$Task;)Z"⟩
abbrev cX1_timesOutBefore : ByteArray := prog_3_method_5_code
def yX1_timesOutBefore : MethodName := ⟨RX1, "timesOutBefore", "(LFutexKernel$Task;)Z"⟩
def RX2 : String := "FutexKernel"
def TX2 : u_T := fun k => match k with
  | 0 => ("FutexKernel", "words", "[I", true)
  | 1 => ("FutexKernel", "tasks", "[LFutexKernel$Task;", true)
  | 2 => ("FutexKernel", "time", "I", false)
  | 3 => ("FutexKernel", "endedWaits", "I", false)
  | 4 => ("FutexKernel", "begunWaits", "I", false)
  | _ => ("FutexKernel", "joins", "I", false)
def tyX2 : Nat → FieldType := fun k => match k with
  | 0 => .array .int
  | 1 => .array (.object "FutexKernel$Task")
  | 2 => .int
  | 3 => .int
  | 4 => .int
  | _ => .int
abbrev wsX20 : List Cond := u_ws RX2 TX2 6
theorem nmX2 : ∀ a, a < 6 → ∀ b, b < 6 → a ≠ b → (TX2 a).2.1 ≠ (TX2 b).2.1 := by decide +kernel
theorem tyX2_ok : ∀ k, k < 6 → parseFieldDescriptor (TX2 k).2.2.1 = some (tyX2 k) := by decide +kernel
abbrev cX2_init : ByteArray := prog_1_method_1_code
def yX2_init : MethodName := ⟨RX2, "<init>", "()V"⟩
abbrev cX2_store : ByteArray := prog_1_method_2_code
def yX2_store : MethodName := ⟨RX2, "store", "(III)I"⟩
abbrev cX2_compareAndSet : ByteArray := prog_1_method_3_code
def yX2_compareAndSet : MethodName := ⟨RX2, "compareAndSet", "(IIII)Z"⟩
abbrev cX2_fetchAdd : ByteArray := prog_1_method_4_code
def yX2_fetchAdd : MethodName := ⟨RX2, "fetchAdd", "(III)I"⟩
abbrev cX2_word : ByteArray := prog_1_method_5_code
def yX2_word : MethodName := ⟨RX2, "word", "(I)I"⟩
abbrev cX2_await : ByteArray := prog_1_method_6_code
def yX2_await : MethodName := ⟨RX2, "await", "(IIIII)Z"⟩
abbrev cX2_wake : ByteArray := prog_1_method_7_code
def yX2_wake : MethodName := ⟨RX2, "wake", "(IIII)I"⟩
abbrev cX2_requeue : ByteArray := prog_1_method_8_code
def yX2_requeue : MethodName := ⟨RX2, "requeue", "(IIIIII)I"⟩
abbrev cX2_lock : ByteArray := prog_1_method_9_code
def yX2_lock : MethodName := ⟨RX2, "lock", "(III)I"⟩
abbrev cX2_unlock : ByteArray := prog_1_method_10_code
def yX2_unlock : MethodName := ⟨RX2, "unlock", "(II)I"⟩
abbrev cX2_locks : ByteArray := prog_1_method_11_code
def yX2_locks : MethodName := ⟨RX2, "locks", "(I)I"⟩
abbrev cX2_lockAt : ByteArray := prog_1_method_12_code
def yX2_lockAt : MethodName := ⟨RX2, "lockAt", "(II)I"⟩
abbrev cX2_blockedBy : ByteArray := prog_1_method_13_code
def yX2_blockedBy : MethodName := ⟨RX2, "blockedBy", "(I)I"⟩
abbrev cX2_interrupt : ByteArray := prog_1_method_14_code
def yX2_interrupt : MethodName := ⟨RX2, "interrupt", "(I)V"⟩
abbrev cX2_exit : ByteArray := prog_1_method_15_code
def yX2_exit : MethodName := ⟨RX2, "exit", "(I)I"⟩
abbrev cX2_start : ByteArray := prog_1_method_16_code
def yX2_start : MethodName := ⟨RX2, "start", "(I)V"⟩
abbrev cX2_setPriority : ByteArray := prog_1_method_17_code
def yX2_setPriority : MethodName := ⟨RX2, "setPriority", "(II)I"⟩
abbrev cX2_tick : ByteArray := prog_1_method_18_code
def yX2_tick : MethodName := ⟨RX2, "tick", "(I)I"⟩
abbrev cX2_now : ByteArray := prog_1_method_19_code
def yX2_now : MethodName := ⟨RX2, "now", "()I"⟩
abbrev cX2_nextTimeout : ByteArray := prog_1_method_20_code
def yX2_nextTimeout : MethodName := ⟨RX2, "nextTimeout", "()I"⟩
abbrev cX2_stateOf : ByteArray := prog_1_method_21_code
def yX2_stateOf : MethodName := ⟨RX2, "stateOf", "(I)I"⟩
abbrev cX2_addressOf : ByteArray := prog_1_method_22_code
def yX2_addressOf : MethodName := ⟨RX2, "addressOf", "(I)I"⟩
abbrev cX2_resultOf : ByteArray := prog_1_method_23_code
def yX2_resultOf : MethodName := ⟨RX2, "resultOf", "(I)I"⟩
abbrev cX2_serialOf : ByteArray := prog_1_method_24_code
def yX2_serialOf : MethodName := ⟨RX2, "serialOf", "(I)I"⟩
abbrev cX2_waiters : ByteArray := prog_1_method_25_code
def yX2_waiters : MethodName := ⟨RX2, "waiters", "(I)I"⟩
abbrev cX2_waiterAt : ByteArray := prog_1_method_26_code
def yX2_waiterAt : MethodName := ⟨RX2, "waiterAt", "(II)I"⟩
abbrev cX2_queueAt : ByteArray := prog_1_method_27_code
def yX2_queueAt : MethodName := ⟨RX2, "queueAt", "(II)I"⟩
abbrev cX2_taskOf : ByteArray := prog_1_method_28_code
def yX2_taskOf : MethodName := ⟨RX2, "taskOf", "(I)LFutexKernel$Task;"⟩
abbrev cX2_isAddress : ByteArray := prog_1_method_29_code
def yX2_isAddress : MethodName := ⟨RX2, "isAddress", "(I)Z"⟩
abbrev cX2_requireAddress : ByteArray := prog_1_method_30_code
def yX2_requireAddress : MethodName := ⟨RX2, "requireAddress", "(I)V"⟩
abbrev cX2_requireBetween : ByteArray := prog_1_method_31_code
def yX2_requireBetween : MethodName := ⟨RX2, "requireBetween", "(III)V"⟩
abbrev cX2_requireRunning : ByteArray := prog_1_method_32_code
def yX2_requireRunning : MethodName := ⟨RX2, "requireRunning", "(LFutexKernel$Task;)V"⟩
abbrev cX2_requireAlive : ByteArray := prog_1_method_33_code
def yX2_requireAlive : MethodName := ⟨RX2, "requireAlive", "(LFutexKernel$Task;)V"⟩
abbrev cX2_bucketOf : ByteArray := prog_1_method_34_code
def yX2_bucketOf : MethodName := ⟨RX2, "bucketOf", "(I)I"⟩
abbrev cX2_joinQueue : ByteArray := prog_1_method_35_code
def yX2_joinQueue : MethodName := ⟨RX2, "joinQueue", "(LFutexKernel$Task;I)V"⟩
abbrev cX2_countAheadAtAddress : ByteArray := prog_1_method_36_code
def yX2_countAheadAtAddress : MethodName := ⟨RX2, "countAheadAtAddress", "(LFutexKernel$Task;)I"⟩
abbrev cX2_countAheadInBucket : ByteArray := prog_1_method_37_code
def yX2_countAheadInBucket : MethodName := ⟨RX2, "countAheadInBucket", "(LFutexKernel$Task;)I"⟩
abbrev cX2_firstAt : ByteArray := prog_1_method_38_code
def yX2_firstAt : MethodName := ⟨RX2, "firstAt", "(III)LFutexKernel$Task;"⟩
abbrev cX2_firstLockingAt : ByteArray := prog_1_method_39_code
def yX2_firstLockingAt : MethodName := ⟨RX2, "firstLockingAt", "(I)LFutexKernel$Task;"⟩
abbrev cX2_beginWait : ByteArray := prog_1_method_40_code
def yX2_beginWait : MethodName := ⟨RX2, "beginWait", "(LFutexKernel$Task;IIII)V"⟩
abbrev cX2_endWait : ByteArray := prog_1_method_41_code
def yX2_endWait : MethodName := ⟨RX2, "endWait", "(LFutexKernel$Task;I)V"⟩
abbrev cX2_leaveQueue : ByteArray := prog_1_method_42_code
def yX2_leaveQueue : MethodName := ⟨RX2, "leaveQueue", "(LFutexKernel$Task;)V"⟩
abbrev cX2_wakeFirst : ByteArray := prog_1_method_43_code
def yX2_wakeFirst : MethodName := ⟨RX2, "wakeFirst", "(III)I"⟩
abbrev cX2_moveFirst : ByteArray := prog_1_method_44_code
def yX2_moveFirst : MethodName := ⟨RX2, "moveFirst", "(III)I"⟩
abbrev cX2_firstToTimeOut : ByteArray := prog_1_method_45_code
def yX2_firstToTimeOut : MethodName := ⟨RX2, "firstToTimeOut", "()LFutexKernel$Task;"⟩
abbrev cX2_ownerAt : ByteArray := prog_1_method_46_code
def yX2_ownerAt : MethodName := ⟨RX2, "ownerAt", "(I)LFutexKernel$Task;"⟩
abbrev cX2_giveLock : ByteArray := prog_1_method_47_code
def yX2_giveLock : MethodName := ⟨RX2, "giveLock", "(LFutexKernel$Task;II)V"⟩
abbrev cX2_passOn : ByteArray := prog_1_method_48_code
def yX2_passOn : MethodName := ⟨RX2, "passOn", "(IZ)I"⟩
abbrev cX2_isHeldUpBy : ByteArray := prog_1_method_49_code
def yX2_isHeldUpBy : MethodName := ⟨RX2, "isHeldUpBy", "(LFutexKernel$Task;LFutexKernel$Task;)Z"⟩
abbrev cX2_blockedByOneOf : ByteArray := prog_1_method_50_code
def yX2_blockedByOneOf : MethodName := ⟨RX2, "blockedByOneOf", "(I)I"⟩
def RX3 : String := "FutexKernelModel"
def TX3 : u_T := fun k => match k with
  | 0 => ("FutexKernelModel", "word", "[I", true)
  | 1 => ("FutexKernelModel", "state", "[I", true)
  | 2 => ("FutexKernelModel", "priority", "[I", true)
  | 3 => ("FutexKernelModel", "result", "[I", true)
  | 4 => ("FutexKernelModel", "serial", "[I", true)
  | 5 => ("FutexKernelModel", "at", "[I", true)
  | 6 => ("FutexKernelModel", "mask", "[I", true)
  | 7 => ("FutexKernelModel", "deadline", "[I", true)
  | 8 => ("FutexKernelModel", "began", "[I", true)
  | 9 => ("FutexKernelModel", "joined", "[I", true)
  | 10 => ("FutexKernelModel", "many", "[I", true)
  | 11 => ("FutexKernelModel", "list", "[I", true)
  | 12 => ("FutexKernelModel", "time", "I", false)
  | 13 => ("FutexKernelModel", "ends", "I", false)
  | 14 => ("FutexKernelModel", "begins", "I", false)
  | 15 => ("FutexKernelModel", "joins", "I", false)
  | _ => ("FutexKernelModel", "thrown", "I", false)
def tyX3 : Nat → FieldType := fun k => match k with
  | 0 => .array .int
  | 1 => .array .int
  | 2 => .array .int
  | 3 => .array .int
  | 4 => .array .int
  | 5 => .array .int
  | 6 => .array .int
  | 7 => .array .int
  | 8 => .array .int
  | 9 => .array .int
  | 10 => .array .int
  | 11 => .array .int
  | 12 => .int
  | 13 => .int
  | 14 => .int
  | 15 => .int
  | _ => .int
abbrev wsX30 : List Cond := u_ws RX3 TX3 17
theorem nmX3 : ∀ a, a < 17 → ∀ b, b < 17 → a ≠ b → (TX3 a).2.1 ≠ (TX3 b).2.1 := by decide +kernel
theorem tyX3_ok : ∀ k, k < 17 → parseFieldDescriptor (TX3 k).2.2.1 = some (tyX3 k) := by decide +kernel
abbrev cX3_init : ByteArray := prog_5_method_1_code
def yX3_init : MethodName := ⟨RX3, "<init>", "()V"⟩
abbrev cX3_thrown : ByteArray := prog_5_method_2_code
def yX3_thrown : MethodName := ⟨RX3, "thrown", "()I"⟩
abbrev cX3_fails : ByteArray := prog_5_method_3_code
def yX3_fails : MethodName := ⟨RX3, "fails", "(I)I"⟩
abbrev cX3_asks : ByteArray := prog_5_method_4_code
def yX3_asks : MethodName := ⟨RX3, "asks", "(Z)Z"⟩
abbrev cX3_isThread : ByteArray := prog_5_method_5_code
def yX3_isThread : MethodName := ⟨RX3, "isThread", "(I)Z"⟩
abbrev cX3_isAddress : ByteArray := prog_5_method_6_code
def yX3_isAddress : MethodName := ⟨RX3, "isAddress", "(I)Z"⟩
abbrev cX3_bucketOf : ByteArray := prog_5_method_7_code
def yX3_bucketOf : MethodName := ⟨RX3, "bucketOf", "(I)I"⟩
abbrev cX3_isQueued : ByteArray := prog_5_method_8_code
def yX3_isQueued : MethodName := ⟨RX3, "isQueued", "(I)Z"⟩
abbrev cX3_ownerOf : ByteArray := prog_5_method_9_code
def yX3_ownerOf : MethodName := ⟨RX3, "ownerOf", "(I)I"⟩
abbrev cX3_key : ByteArray := prog_5_method_10_code
def yX3_key : MethodName := ⟨RX3, "key", "(I)J"⟩
abbrev cX3_first : ByteArray := prog_5_method_11_code
def yX3_first : MethodName := ⟨RX3, "first", "(III)I"⟩
abbrev cX3_isSomebodyLocking : ByteArray := prog_5_method_12_code
def yX3_isSomebodyLocking : MethodName := ⟨RX3, "isSomebodyLocking", "(I)Z"⟩
abbrev cX3_joins : ByteArray := prog_5_method_13_code
def yX3_joins : MethodName := ⟨RX3, "joins", "(II)V"⟩
abbrev cX3_leaves : ByteArray := prog_5_method_14_code
def yX3_leaves : MethodName := ⟨RX3, "leaves", "(II)V"⟩
abbrev cX3_ends : ByteArray := prog_5_method_15_code
def yX3_ends : MethodName := ⟨RX3, "ends", "(II)V"⟩
abbrev cX3_waits : ByteArray := prog_5_method_16_code
def yX3_waits : MethodName := ⟨RX3, "waits", "(IIIII)V"⟩
abbrev cX3_asksRunning : ByteArray := prog_5_method_17_code
def yX3_asksRunning : MethodName := ⟨RX3, "asksRunning", "(IIZI)Z"⟩
abbrev cX3_store : ByteArray := prog_5_method_18_code
def yX3_store : MethodName := ⟨RX3, "store", "(III)I"⟩
abbrev cX3_compareAndSet : ByteArray := prog_5_method_19_code
def yX3_compareAndSet : MethodName := ⟨RX3, "compareAndSet", "(IIII)Z"⟩
abbrev cX3_fetchAdd : ByteArray := prog_5_method_20_code
def yX3_fetchAdd : MethodName := ⟨RX3, "fetchAdd", "(III)I"⟩
abbrev cX3_word : ByteArray := prog_5_method_21_code
def yX3_word : MethodName := ⟨RX3, "word", "(I)I"⟩
abbrev cX3_isMask : ByteArray := prog_5_method_22_code
def yX3_isMask : MethodName := ⟨RX3, "isMask", "(I)Z"⟩
abbrev cX3_isTimeout : ByteArray := prog_5_method_23_code
def yX3_isTimeout : MethodName := ⟨RX3, "isTimeout", "(I)Z"⟩
abbrev cX3_await : ByteArray := prog_5_method_24_code
def yX3_await : MethodName := ⟨RX3, "await", "(IIIII)Z"⟩
abbrev cX3_wakes : ByteArray := prog_5_method_25_code
def yX3_wakes : MethodName := ⟨RX3, "wakes", "(III)I"⟩
abbrev cX3_wake : ByteArray := prog_5_method_26_code
def yX3_wake : MethodName := ⟨RX3, "wake", "(IIII)I"⟩
abbrev cX3_requeue : ByteArray := prog_5_method_27_code
def yX3_requeue : MethodName := ⟨RX3, "requeue", "(IIIIII)I"⟩
abbrev cX3_place : ByteArray := prog_5_method_28_code
def yX3_place : MethodName := ⟨RX3, "place", "(II)I"⟩
abbrev cX3_gets : ByteArray := prog_5_method_29_code
def yX3_gets : MethodName := ⟨RX3, "gets", "(II)V"⟩
abbrev cX3_drops : ByteArray := prog_5_method_30_code
def yX3_drops : MethodName := ⟨RX3, "drops", "(II)V"⟩
abbrev cX3_passes : ByteArray := prog_5_method_31_code
def yX3_passes : MethodName := ⟨RX3, "passes", "(IZ)I"⟩
abbrev cX3_isDeadlock : ByteArray := prog_5_method_32_code
def yX3_isDeadlock : MethodName := ⟨RX3, "isDeadlock", "(II)Z"⟩
abbrev cX3_lock : ByteArray := prog_5_method_33_code
def yX3_lock : MethodName := ⟨RX3, "lock", "(III)I"⟩
abbrev cX3_unlock : ByteArray := prog_5_method_34_code
def yX3_unlock : MethodName := ⟨RX3, "unlock", "(II)I"⟩
abbrev cX3_locks : ByteArray := prog_5_method_35_code
def yX3_locks : MethodName := ⟨RX3, "locks", "(I)I"⟩
abbrev cX3_lockAt : ByteArray := prog_5_method_36_code
def yX3_lockAt : MethodName := ⟨RX3, "lockAt", "(II)I"⟩
abbrev cX3_blockedBy : ByteArray := prog_5_method_37_code
def yX3_blockedBy : MethodName := ⟨RX3, "blockedBy", "(I)I"⟩
abbrev cX3_interrupt : ByteArray := prog_5_method_38_code
def yX3_interrupt : MethodName := ⟨RX3, "interrupt", "(I)V"⟩
abbrev cX3_exit : ByteArray := prog_5_method_39_code
def yX3_exit : MethodName := ⟨RX3, "exit", "(I)I"⟩
abbrev cX3_start : ByteArray := prog_5_method_40_code
def yX3_start : MethodName := ⟨RX3, "start", "(I)V"⟩
abbrev cX3_setPriority : ByteArray := prog_5_method_41_code
def yX3_setPriority : MethodName := ⟨RX3, "setPriority", "(II)I"⟩
abbrev cX3_due : ByteArray := prog_5_method_42_code
def yX3_due : MethodName := ⟨RX3, "due", "()I"⟩
abbrev cX3_tick : ByteArray := prog_5_method_43_code
def yX3_tick : MethodName := ⟨RX3, "tick", "(I)I"⟩
abbrev cX3_now : ByteArray := prog_5_method_44_code
def yX3_now : MethodName := ⟨RX3, "now", "()I"⟩
abbrev cX3_nextTimeout : ByteArray := prog_5_method_45_code
def yX3_nextTimeout : MethodName := ⟨RX3, "nextTimeout", "()I"⟩
abbrev cX3_stateOf : ByteArray := prog_5_method_46_code
def yX3_stateOf : MethodName := ⟨RX3, "stateOf", "(I)I"⟩
abbrev cX3_addressOf : ByteArray := prog_5_method_47_code
def yX3_addressOf : MethodName := ⟨RX3, "addressOf", "(I)I"⟩
abbrev cX3_resultOf : ByteArray := prog_5_method_48_code
def yX3_resultOf : MethodName := ⟨RX3, "resultOf", "(I)I"⟩
abbrev cX3_serialOf : ByteArray := prog_5_method_49_code
def yX3_serialOf : MethodName := ⟨RX3, "serialOf", "(I)I"⟩
abbrev cX3_countAt : ByteArray := prog_5_method_50_code
def yX3_countAt : MethodName := ⟨RX3, "countAt", "(I)I"⟩
abbrev cX3_waiters : ByteArray := prog_5_method_51_code
def yX3_waiters : MethodName := ⟨RX3, "waiters", "(I)I"⟩
abbrev cX3_isIn : ByteArray := prog_5_method_52_code
def yX3_isIn : MethodName := ⟨RX3, "isIn", "(III)Z"⟩
abbrev cX3_thread : ByteArray := prog_5_method_53_code
def yX3_thread : MethodName := ⟨RX3, "thread", "(III)I"⟩
abbrev cX3_waiterAt : ByteArray := prog_5_method_54_code
def yX3_waiterAt : MethodName := ⟨RX3, "waiterAt", "(II)I"⟩
abbrev cX3_queueAt : ByteArray := prog_5_method_55_code
def yX3_queueAt : MethodName := ⟨RX3, "queueAt", "(II)I"⟩
def RJ6 : String := "java/lang/Integer"
def TJ6 : u_T := fun k => match k with
  | _ => ("", "", "", false)
def tyJ6 : Nat → FieldType := fun k => match k with
  | _ => .int
abbrev wsJ60 : List Cond := u_ws RJ6 TJ6 0
theorem nmJ6 : ∀ a, a < 0 → ∀ b, b < 0 → a ≠ b → (TJ6 a).2.1 ≠ (TJ6 b).2.1 := by decide +kernel
theorem tyJ6_ok : ∀ k, k < 0 → parseFieldDescriptor (TJ6 k).2.2.1 = some (tyJ6 k) := by decide +kernel
abbrev cJ6_bitCount_0f7a4 : ByteArray := prog_10_method_49_code
def yJ6_bitCount_0f7a4 : MethodName := ⟨RJ6, "bitCount", "(I)I"⟩
def RJ0 : String := "java/lang/String"
def TJ0 : u_T := fun k => match k with
  | _ => ("", "", "", false)
def tyJ0 : Nat → FieldType := fun k => match k with
  | _ => .int
abbrev wsJ00 : List Cond := u_ws RJ0 TJ0 0
theorem nmJ0 : ∀ a, a < 0 → ∀ b, b < 0 → a ≠ b → (TJ0 a).2.1 ≠ (TJ0 b).2.1 := by decide +kernel
theorem tyJ0_ok : ∀ k, k < 0 → parseFieldDescriptor (TJ0 k).2.2.1 = some (tyJ0 k) := by decide +kernel
def RL : String := "FutexKernelLaw"
abbrev cL_store : ByteArray := method_3_code
def yL_store : MethodName := ⟨RL, "store", "(LFutexKernel;III[J)I"⟩
abbrev cL_compareAndSet : ByteArray := method_4_code
def yL_compareAndSet : MethodName := ⟨RL, "compareAndSet", "(LFutexKernel;IIII[J)I"⟩
abbrev cL_fetchAdd : ByteArray := method_5_code
def yL_fetchAdd : MethodName := ⟨RL, "fetchAdd", "(LFutexKernel;III[J)I"⟩
abbrev cL_word : ByteArray := method_6_code
def yL_word : MethodName := ⟨RL, "word", "(LFutexKernel;I[J)I"⟩
abbrev cL_await : ByteArray := method_7_code
def yL_await : MethodName := ⟨RL, "await", "(LFutexKernel;IIIII[J)I"⟩
abbrev cL_wake : ByteArray := method_8_code
def yL_wake : MethodName := ⟨RL, "wake", "(LFutexKernel;IIII[J)I"⟩
abbrev cL_requeue : ByteArray := method_9_code
def yL_requeue : MethodName := ⟨RL, "requeue", "(LFutexKernel;IIIIII[J)I"⟩
abbrev cL_lock : ByteArray := method_10_code
def yL_lock : MethodName := ⟨RL, "lock", "(LFutexKernel;III[J)I"⟩
abbrev cL_unlock : ByteArray := method_11_code
def yL_unlock : MethodName := ⟨RL, "unlock", "(LFutexKernel;II[J)I"⟩
abbrev cL_locks : ByteArray := method_12_code
def yL_locks : MethodName := ⟨RL, "locks", "(LFutexKernel;I[J)I"⟩
abbrev cL_lockAt : ByteArray := method_13_code
def yL_lockAt : MethodName := ⟨RL, "lockAt", "(LFutexKernel;II[J)I"⟩
abbrev cL_blockedBy : ByteArray := method_14_code
def yL_blockedBy : MethodName := ⟨RL, "blockedBy", "(LFutexKernel;I[J)I"⟩
abbrev cL_interrupt : ByteArray := method_15_code
def yL_interrupt : MethodName := ⟨RL, "interrupt", "(LFutexKernel;I)I"⟩
abbrev cL_exit : ByteArray := method_16_code
def yL_exit : MethodName := ⟨RL, "exit", "(LFutexKernel;I[J)I"⟩
abbrev cL_start : ByteArray := method_17_code
def yL_start : MethodName := ⟨RL, "start", "(LFutexKernel;I)I"⟩
abbrev cL_setPriority : ByteArray := method_18_code
def yL_setPriority : MethodName := ⟨RL, "setPriority", "(LFutexKernel;II[J)I"⟩
abbrev cL_tick : ByteArray := method_19_code
def yL_tick : MethodName := ⟨RL, "tick", "(LFutexKernel;I[J)I"⟩
abbrev cL_stateOf : ByteArray := method_20_code
def yL_stateOf : MethodName := ⟨RL, "stateOf", "(LFutexKernel;I[J)I"⟩
abbrev cL_addressOf : ByteArray := method_21_code
def yL_addressOf : MethodName := ⟨RL, "addressOf", "(LFutexKernel;I[J)I"⟩
abbrev cL_resultOf : ByteArray := method_22_code
def yL_resultOf : MethodName := ⟨RL, "resultOf", "(LFutexKernel;I[J)I"⟩
abbrev cL_serialOf : ByteArray := method_23_code
def yL_serialOf : MethodName := ⟨RL, "serialOf", "(LFutexKernel;I[J)I"⟩
abbrev cL_waiters : ByteArray := method_24_code
def yL_waiters : MethodName := ⟨RL, "waiters", "(LFutexKernel;I[J)I"⟩
abbrev cL_waiterAt : ByteArray := method_25_code
def yL_waiterAt : MethodName := ⟨RL, "waiterAt", "(LFutexKernel;II[J)I"⟩
abbrev cL_queueAt : ByteArray := method_26_code
def yL_queueAt : MethodName := ⟨RL, "queueAt", "(LFutexKernel;II[J)I"⟩
abbrev cL_law : ByteArray := code
def yL_law : MethodName := ⟨RL, "law", "([I)Z"⟩
def wsX0_init : List Cond := .code yX0_init cX0_init 1 none :: ([.methodLink RX0 3 objectInit, .instanceMethod objectInit, .code objectInit ⟨#[0xb1]⟩ 1 none, .arrayClass .int, .fieldLink RX0 9 "FutexKernel$LockList" "addresses" "[I", .fieldLink RX0 15 "FutexKernel$LockList" "size" "I"] ++ wsX00)
def wsX0_addressAt : List Cond := .code yX0_addressAt cX0_addressAt 2 (some .int) :: ([.fieldLink RX0 15 "FutexKernel$LockList" "size" "I", .fieldLink RX0 9 "FutexKernel$LockList" "addresses" "[I"] ++ wsX00)
def wsX0_placeOf : List Cond := .code yX0_placeOf cX0_placeOf 3 (some .int) :: ([.fieldLink RX0 15 "FutexKernel$LockList" "size" "I", .fieldLink RX0 9 "FutexKernel$LockList" "addresses" "[I"] ++ wsX00)
def wsX0_add : List Cond := .code yX0_add cX0_add 2 none :: ([.fieldLink RX0 15 "FutexKernel$LockList" "size" "I", .fieldLink RX0 9 "FutexKernel$LockList" "addresses" "[I", .methodLink RX0 19 yX0_placeOf, .instanceMethod yX0_placeOf, .selects RX0 yX0_placeOf yX0_placeOf, .initialized RX0, .code yX0_placeOf cX0_placeOf 3 (some .int)] ++ wsX00)
def wsX0_clear : List Cond := .code yX0_clear cX0_clear 1 none :: ([.fieldLink RX0 15 "FutexKernel$LockList" "size" "I"] ++ wsX00)
def wsX0_drop : List Cond := .code yX0_drop cX0_drop 4 none :: ([.fieldLink RX0 15 "FutexKernel$LockList" "size" "I", .fieldLink RX0 9 "FutexKernel$LockList" "addresses" "[I", .methodLink RX0 19 yX0_placeOf, .instanceMethod yX0_placeOf, .selects RX0 yX0_placeOf yX0_placeOf, .initialized RX0, .code yX0_placeOf cX0_placeOf 3 (some .int)] ++ wsX00)
def wsX1_init : List Cond := .code yX1_init cX1_init 2 none :: ([.methodLink RX1 3 objectInit, .instanceMethod objectInit, .code objectInit ⟨#[0xb1]⟩ 1 none, .classLink RX1 9 RX0, .instantiable RX0 2, .initialized RX0, .fieldLink RX1 12 "FutexKernel$Task" "held" "LFutexKernel$LockList;", .fieldLink RX1 18 "FutexKernel$Task" "state" "I", .fieldLink RX1 22 "FutexKernel$Task" "priority" "I", .fieldLink RX1 25 "FutexKernel$Task" "address" "I", .fieldLink RX1 28 "FutexKernel$Task" "mask" "I", .fieldLink RX1 31 "FutexKernel$Task" "deadline" "I", .fieldLink RX1 34 "FutexKernel$Task" "begun" "I", .fieldLink RX1 37 "FutexKernel$Task" "joined" "I", .fieldLink RX1 40 "FutexKernel$Task" "result" "I", .fieldLink RX1 43 "FutexKernel$Task" "serial" "I", .fieldLink RX1 46 "FutexKernel$Task" "number" "I", .instanceMethod yX0_init, .code yX0_init cX0_init 1 none, .methodLink RX0 3 objectInit, .arrayClass .int, .fieldLink RX0 9 "FutexKernel$LockList" "addresses" "[I", .fieldLink RX0 15 "FutexKernel$LockList" "size" "I"] ++ wsX00 ++ wsX10)
def wsX1_bit : List Cond := .code yX1_bit cX1_bit 1 (some .int) :: ([.fieldLink RX1 46 "FutexKernel$Task" "number" "I"] ++ wsX10)
def wsX1_isQueued : List Cond := .code yX1_isQueued cX1_isQueued 1 (some .boolean) :: ([.fieldLink RX1 25 "FutexKernel$Task" "address" "I"] ++ wsX10)
def wsX1_isAheadOf : List Cond := .code yX1_isAheadOf cX1_isAheadOf 2 (some .boolean) :: ([.fieldLink RX1 22 "FutexKernel$Task" "priority" "I", .fieldLink RX1 37 "FutexKernel$Task" "joined" "I"] ++ wsX10)
def wsX1_timesOutBefore : List Cond := .code yX1_timesOutBefore cX1_timesOutBefore 2 (some .boolean) :: ([.fieldLink RX1 31 "FutexKernel$Task" "deadline" "I", .fieldLink RX1 34 "FutexKernel$Task" "begun" "I"] ++ wsX10)
def wsX2_init_r1 : List Cond := [Cond.methodLink RX2 1 objectInit, Cond.instanceMethod objectInit, Cond.code objectInit ⟨#[0xb1]⟩ 1 none, Cond.arrayClass .int, Cond.fieldLink RX2 9 "FutexKernel" "words" "[I", Cond.classLink RX2 13 RX1, Cond.fieldLink RX2 15 "FutexKernel" "tasks" "[LFutexKernel$Task;", Cond.fieldLink RX2 19 "FutexKernel" "time" "I", Cond.fieldLink RX2 23 "FutexKernel" "endedWaits" "I", Cond.fieldLink RX2 26 "FutexKernel" "begunWaits" "I", Cond.fieldLink RX2 29 "FutexKernel" "joins" "I", Cond.instantiable RX1 11, Cond.initialized RX1, Cond.methodLink RX2 32 yX1_init, Cond.instanceMethod yX1_init, Cond.code yX1_init cX1_init 2 none, Cond.methodLink RX1 3 objectInit, Cond.classLink RX1 9 RX0, Cond.instantiable RX0 2, Cond.initialized RX0, Cond.fieldLink RX1 12 "FutexKernel$Task" "held" "LFutexKernel$LockList;", Cond.fieldLink RX1 18 "FutexKernel$Task" "state" "I", Cond.fieldLink RX1 22 "FutexKernel$Task" "priority" "I", Cond.fieldLink RX1 25 "FutexKernel$Task" "address" "I"]
def wsX2_init_r2 : List Cond := [Cond.fieldLink RX1 28 "FutexKernel$Task" "mask" "I", Cond.fieldLink RX1 31 "FutexKernel$Task" "deadline" "I", Cond.fieldLink RX1 34 "FutexKernel$Task" "begun" "I", Cond.fieldLink RX1 37 "FutexKernel$Task" "joined" "I", Cond.fieldLink RX1 40 "FutexKernel$Task" "result" "I", Cond.fieldLink RX1 43 "FutexKernel$Task" "serial" "I", Cond.fieldLink RX1 46 "FutexKernel$Task" "number" "I", Cond.instanceMethod yX0_init, Cond.code yX0_init cX0_init 1 none, Cond.methodLink RX0 3 objectInit, Cond.fieldLink RX0 9 "FutexKernel$LockList" "addresses" "[I", Cond.fieldLink RX0 15 "FutexKernel$LockList" "size" "I"]
def wsX2_init : List Cond := .code yX2_init cX2_init 2 none :: ((wsX2_init_r1 ++ wsX2_init_r2) ++ wsX20 ++ wsX10 ++ wsX00)
def wsX2_taskOf : List Cond := .code yX2_taskOf cX2_taskOf 2 (some (.object "FutexKernel$Task")) :: ([.classLink RX2 105 "java/lang/IndexOutOfBoundsException", .initialized "java/lang/IndexOutOfBoundsException", .fieldLink RX2 15 "FutexKernel" "tasks" "[LFutexKernel$Task;"] ++ wsX20 ++ (vx_atS RX2 109 "java/lang/IndexOutOfBoundsException" ["java/lang/RuntimeException", "java/lang/Exception"]).filter goodWord)
def wsX2_isAddress : List Cond := .code yX2_isAddress cX2_isAddress 1 (some .boolean) :: ([])
def wsX2_requireAddress : List Cond := .code yX2_requireAddress cX2_requireAddress 1 none :: ([.classLink RX2 105 "java/lang/IndexOutOfBoundsException", .initialized "java/lang/IndexOutOfBoundsException", .methodLink RX2 186 yX2_isAddress, .static yX2_isAddress, .initialized RX2, .code yX2_isAddress cX2_isAddress 1 (some .boolean)] ++ (vx_atS RX2 109 "java/lang/IndexOutOfBoundsException" ["java/lang/RuntimeException", "java/lang/Exception"]).filter goodWord)
def wsX2_requireRunning : List Cond := .code yX2_requireRunning cX2_requireRunning 1 none :: ([.classLink RX2 84 "java/lang/IllegalStateException", .initialized "java/lang/IllegalStateException", .fieldLink RX2 76 "FutexKernel$Task" "state" "I"] ++ wsX10 ++ (vx_atS RX2 88 "java/lang/IllegalStateException" ["java/lang/RuntimeException", "java/lang/Exception"]).filter goodWord)
def wsX2_store : List Cond := .code yX2_store cX2_store 6 (some .int) :: ([.fieldLink RX2 9 "FutexKernel" "words" "[I", .methodLink RX2 35 yX2_taskOf, .instanceMethod yX2_taskOf, .selects RX2 yX2_taskOf yX2_taskOf, .initialized RX2, .code yX2_taskOf cX2_taskOf 2 (some (.object "FutexKernel$Task")), .classLink RX2 105 "java/lang/IndexOutOfBoundsException", .initialized "java/lang/IndexOutOfBoundsException", .fieldLink RX2 15 "FutexKernel" "tasks" "[LFutexKernel$Task;", .methodLink RX2 39 yX2_requireAddress, .static yX2_requireAddress, .code yX2_requireAddress cX2_requireAddress 1 none, .methodLink RX2 186 yX2_isAddress, .static yX2_isAddress, .code yX2_isAddress cX2_isAddress 1 (some .boolean), .methodLink RX2 42 yX2_requireRunning, .static yX2_requireRunning, .code yX2_requireRunning cX2_requireRunning 1 none, .classLink RX2 84 "java/lang/IllegalStateException", .initialized "java/lang/IllegalStateException", .fieldLink RX2 76 "FutexKernel$Task" "state" "I"] ++ wsX20 ++ wsX10 ++ (vx_atS RX2 109 "java/lang/IndexOutOfBoundsException" ["java/lang/RuntimeException", "java/lang/Exception"]).filter goodWord ++ (vx_atS RX2 88 "java/lang/IllegalStateException" ["java/lang/RuntimeException", "java/lang/Exception"]).filter goodWord)
def wsX2_compareAndSet : List Cond := .code yX2_compareAndSet cX2_compareAndSet 6 (some .boolean) :: ([.fieldLink RX2 9 "FutexKernel" "words" "[I", .methodLink RX2 35 yX2_taskOf, .instanceMethod yX2_taskOf, .selects RX2 yX2_taskOf yX2_taskOf, .initialized RX2, .code yX2_taskOf cX2_taskOf 2 (some (.object "FutexKernel$Task")), .classLink RX2 105 "java/lang/IndexOutOfBoundsException", .initialized "java/lang/IndexOutOfBoundsException", .fieldLink RX2 15 "FutexKernel" "tasks" "[LFutexKernel$Task;", .methodLink RX2 39 yX2_requireAddress, .static yX2_requireAddress, .code yX2_requireAddress cX2_requireAddress 1 none, .methodLink RX2 186 yX2_isAddress, .static yX2_isAddress, .code yX2_isAddress cX2_isAddress 1 (some .boolean), .methodLink RX2 42 yX2_requireRunning, .static yX2_requireRunning, .code yX2_requireRunning cX2_requireRunning 1 none, .classLink RX2 84 "java/lang/IllegalStateException", .initialized "java/lang/IllegalStateException", .fieldLink RX2 76 "FutexKernel$Task" "state" "I"] ++ wsX20 ++ wsX10 ++ (vx_atS RX2 109 "java/lang/IndexOutOfBoundsException" ["java/lang/RuntimeException", "java/lang/Exception"]).filter goodWord ++ (vx_atS RX2 88 "java/lang/IllegalStateException" ["java/lang/RuntimeException", "java/lang/Exception"]).filter goodWord)
def wsX2_fetchAdd : List Cond := .code yX2_fetchAdd cX2_fetchAdd 6 (some .int) :: ([.fieldLink RX2 9 "FutexKernel" "words" "[I", .methodLink RX2 35 yX2_taskOf, .instanceMethod yX2_taskOf, .selects RX2 yX2_taskOf yX2_taskOf, .initialized RX2, .code yX2_taskOf cX2_taskOf 2 (some (.object "FutexKernel$Task")), .classLink RX2 105 "java/lang/IndexOutOfBoundsException", .initialized "java/lang/IndexOutOfBoundsException", .fieldLink RX2 15 "FutexKernel" "tasks" "[LFutexKernel$Task;", .methodLink RX2 39 yX2_requireAddress, .static yX2_requireAddress, .code yX2_requireAddress cX2_requireAddress 1 none, .methodLink RX2 186 yX2_isAddress, .static yX2_isAddress, .code yX2_isAddress cX2_isAddress 1 (some .boolean), .methodLink RX2 42 yX2_requireRunning, .static yX2_requireRunning, .code yX2_requireRunning cX2_requireRunning 1 none, .classLink RX2 84 "java/lang/IllegalStateException", .initialized "java/lang/IllegalStateException", .fieldLink RX2 76 "FutexKernel$Task" "state" "I"] ++ wsX20 ++ wsX10 ++ (vx_atS RX2 109 "java/lang/IndexOutOfBoundsException" ["java/lang/RuntimeException", "java/lang/Exception"]).filter goodWord ++ (vx_atS RX2 88 "java/lang/IllegalStateException" ["java/lang/RuntimeException", "java/lang/Exception"]).filter goodWord)
def wsX2_word : List Cond := .code yX2_word cX2_word 2 (some .int) :: ([.fieldLink RX2 9 "FutexKernel" "words" "[I", .methodLink RX2 39 yX2_requireAddress, .static yX2_requireAddress, .initialized RX2, .code yX2_requireAddress cX2_requireAddress 1 none, .classLink RX2 105 "java/lang/IndexOutOfBoundsException", .initialized "java/lang/IndexOutOfBoundsException", .methodLink RX2 186 yX2_isAddress, .static yX2_isAddress, .code yX2_isAddress cX2_isAddress 1 (some .boolean)] ++ wsX20 ++ (vx_atS RX2 109 "java/lang/IndexOutOfBoundsException" ["java/lang/RuntimeException", "java/lang/Exception"]).filter goodWord)
def wsX2_requireBetween : List Cond := .code yX2_requireBetween cX2_requireBetween 3 none :: ([.classLink RX2 58 "java/lang/IllegalArgumentException", .initialized "java/lang/IllegalArgumentException"] ++ (vx_atS RX2 62 "java/lang/IllegalArgumentException" ["java/lang/RuntimeException", "java/lang/Exception"]).filter goodWord)
def wsX2_joinQueue : List Cond := .code yX2_joinQueue cX2_joinQueue 3 none :: ([.fieldLink RX2 156 "FutexKernel$Task" "address" "I", .fieldLink RX2 29 "FutexKernel" "joins" "I", .fieldLink RX2 198 "FutexKernel$Task" "joined" "I"] ++ wsX10 ++ wsX20)
def wsX2_beginWait : List Cond := .code yX2_beginWait cX2_beginWait 6 none :: ([.fieldLink RX2 76 "FutexKernel$Task" "state" "I", .fieldLink RX2 205 "FutexKernel$Task" "mask" "I", .fieldLink RX2 19 "FutexKernel" "time" "I", .fieldLink RX2 166 "FutexKernel$Task" "deadline" "I", .fieldLink RX2 26 "FutexKernel" "begunWaits" "I", .fieldLink RX2 212 "FutexKernel$Task" "begun" "I", .methodLink RX2 159 yX2_joinQueue, .instanceMethod yX2_joinQueue, .selects RX2 yX2_joinQueue yX2_joinQueue, .initialized RX2, .code yX2_joinQueue cX2_joinQueue 3 none, .fieldLink RX2 156 "FutexKernel$Task" "address" "I", .fieldLink RX2 29 "FutexKernel" "joins" "I", .fieldLink RX2 198 "FutexKernel$Task" "joined" "I"] ++ wsX10 ++ wsX20)
def wsX2_await_r1 : List Cond := [Cond.fieldLink RX2 9 "FutexKernel" "words" "[I", Cond.methodLink RX2 35 yX2_taskOf, Cond.instanceMethod yX2_taskOf, Cond.selects RX2 yX2_taskOf yX2_taskOf, Cond.initialized RX2, Cond.code yX2_taskOf cX2_taskOf 2 (some (.object "FutexKernel$Task")), Cond.classLink RX2 105 "java/lang/IndexOutOfBoundsException", Cond.initialized "java/lang/IndexOutOfBoundsException", Cond.fieldLink RX2 15 "FutexKernel" "tasks" "[LFutexKernel$Task;", Cond.methodLink RX2 39 yX2_requireAddress, Cond.static yX2_requireAddress, Cond.code yX2_requireAddress cX2_requireAddress 1 none, Cond.methodLink RX2 186 yX2_isAddress, Cond.static yX2_isAddress, Cond.code yX2_isAddress cX2_isAddress 1 (some .boolean), Cond.methodLink RX2 46 yX2_requireBetween, Cond.static yX2_requireBetween, Cond.code yX2_requireBetween cX2_requireBetween 3 none, Cond.classLink RX2 58 "java/lang/IllegalArgumentException", Cond.initialized "java/lang/IllegalArgumentException", Cond.methodLink RX2 42 yX2_requireRunning, Cond.static yX2_requireRunning, Cond.code yX2_requireRunning cX2_requireRunning 1 none, Cond.classLink RX2 84 "java/lang/IllegalStateException"]
def wsX2_await_r2 : List Cond := [Cond.initialized "java/lang/IllegalStateException", Cond.fieldLink RX2 76 "FutexKernel$Task" "state" "I", Cond.methodLink RX2 50 yX2_beginWait, Cond.instanceMethod yX2_beginWait, Cond.selects RX2 yX2_beginWait yX2_beginWait, Cond.code yX2_beginWait cX2_beginWait 6 none, Cond.fieldLink RX2 205 "FutexKernel$Task" "mask" "I", Cond.fieldLink RX2 19 "FutexKernel" "time" "I", Cond.fieldLink RX2 166 "FutexKernel$Task" "deadline" "I", Cond.fieldLink RX2 26 "FutexKernel" "begunWaits" "I", Cond.fieldLink RX2 212 "FutexKernel$Task" "begun" "I", Cond.methodLink RX2 159 yX2_joinQueue, Cond.instanceMethod yX2_joinQueue, Cond.selects RX2 yX2_joinQueue yX2_joinQueue, Cond.code yX2_joinQueue cX2_joinQueue 3 none, Cond.fieldLink RX2 156 "FutexKernel$Task" "address" "I", Cond.fieldLink RX2 29 "FutexKernel" "joins" "I", Cond.fieldLink RX2 198 "FutexKernel$Task" "joined" "I"]
def wsX2_await : List Cond := .code yX2_await cX2_await 7 (some .boolean) :: ((wsX2_await_r1 ++ wsX2_await_r2) ++ wsX20 ++ wsX10 ++ (vx_atS RX2 109 "java/lang/IndexOutOfBoundsException" ["java/lang/RuntimeException", "java/lang/Exception"]).filter goodWord ++ (vx_atS RX2 62 "java/lang/IllegalArgumentException" ["java/lang/RuntimeException", "java/lang/Exception"]).filter goodWord ++ (vx_atS RX2 88 "java/lang/IllegalStateException" ["java/lang/RuntimeException", "java/lang/Exception"]).filter goodWord)
def wsX2_firstAt : List Cond := .code yX2_firstAt cX2_firstAt 10 (some (.object "FutexKernel$Task")) :: ([.fieldLink RX2 15 "FutexKernel" "tasks" "[LFutexKernel$Task;", .fieldLink RX2 156 "FutexKernel$Task" "address" "I", .fieldLink RX2 76 "FutexKernel$Task" "state" "I", .fieldLink RX2 205 "FutexKernel$Task" "mask" "I", .methodLink RX2 201 yX1_isAheadOf, .instanceMethod yX1_isAheadOf, .selects RX1 yX1_isAheadOf yX1_isAheadOf, .initialized RX1, .code yX1_isAheadOf cX1_isAheadOf 2 (some .boolean), .fieldLink RX1 22 "FutexKernel$Task" "priority" "I", .fieldLink RX1 37 "FutexKernel$Task" "joined" "I"] ++ wsX20 ++ wsX10)
def wsX2_firstLockingAt : List Cond := .code yX2_firstLockingAt cX2_firstLockingAt 2 (some (.object "FutexKernel$Task")) :: ([.methodLink RX2 208 yX2_firstAt, .instanceMethod yX2_firstAt, .selects RX2 yX2_firstAt yX2_firstAt, .initialized RX2, .code yX2_firstAt cX2_firstAt 10 (some (.object "FutexKernel$Task")), .fieldLink RX2 15 "FutexKernel" "tasks" "[LFutexKernel$Task;", .fieldLink RX2 156 "FutexKernel$Task" "address" "I", .fieldLink RX2 76 "FutexKernel$Task" "state" "I", .fieldLink RX2 205 "FutexKernel$Task" "mask" "I", .methodLink RX2 201 yX1_isAheadOf, .instanceMethod yX1_isAheadOf, .selects RX1 yX1_isAheadOf yX1_isAheadOf, .initialized RX1, .code yX1_isAheadOf cX1_isAheadOf 2 (some .boolean), .fieldLink RX1 22 "FutexKernel$Task" "priority" "I", .fieldLink RX1 37 "FutexKernel$Task" "joined" "I"] ++ wsX20 ++ wsX10)
def wsX2_leaveQueue_r1 : List Cond := [Cond.fieldLink RX2 156 "FutexKernel$Task" "address" "I", Cond.fieldLink RX2 76 "FutexKernel$Task" "state" "I", Cond.fieldLink RX2 166 "FutexKernel$Task" "deadline" "I", Cond.fieldLink RX2 9 "FutexKernel" "words" "[I", Cond.constant RX2 218 (2147483647), Cond.methodLink RX2 186 yX2_isAddress, Cond.static yX2_isAddress, Cond.initialized RX2, Cond.code yX2_isAddress cX2_isAddress 1 (some .boolean), Cond.methodLink RX2 215 yX2_firstLockingAt, Cond.instanceMethod yX2_firstLockingAt, Cond.selects RX2 yX2_firstLockingAt yX2_firstLockingAt, Cond.code yX2_firstLockingAt cX2_firstLockingAt 2 (some (.object "FutexKernel$Task")), Cond.methodLink RX2 208 yX2_firstAt, Cond.instanceMethod yX2_firstAt, Cond.selects RX2 yX2_firstAt yX2_firstAt, Cond.code yX2_firstAt cX2_firstAt 10 (some (.object "FutexKernel$Task")), Cond.fieldLink RX2 15 "FutexKernel" "tasks" "[LFutexKernel$Task;", Cond.fieldLink RX2 205 "FutexKernel$Task" "mask" "I", Cond.methodLink RX2 201 yX1_isAheadOf, Cond.instanceMethod yX1_isAheadOf, Cond.selects RX1 yX1_isAheadOf yX1_isAheadOf, Cond.initialized RX1, Cond.code yX1_isAheadOf cX1_isAheadOf 2 (some .boolean)]
def wsX2_leaveQueue_r2 : List Cond := [Cond.fieldLink RX1 22 "FutexKernel$Task" "priority" "I", Cond.fieldLink RX1 37 "FutexKernel$Task" "joined" "I"]
def wsX2_leaveQueue : List Cond := .code yX2_leaveQueue cX2_leaveQueue 4 none :: ((wsX2_leaveQueue_r1 ++ wsX2_leaveQueue_r2) ++ wsX10 ++ wsX20)
def wsX2_endWait_r1 : List Cond := [Cond.fieldLink RX2 150 "FutexKernel$Task" "result" "I", Cond.fieldLink RX2 23 "FutexKernel" "endedWaits" "I", Cond.fieldLink RX2 153 "FutexKernel$Task" "serial" "I", Cond.methodLink RX2 139 yX2_leaveQueue, Cond.instanceMethod yX2_leaveQueue, Cond.selects RX2 yX2_leaveQueue yX2_leaveQueue, Cond.initialized RX2, Cond.code yX2_leaveQueue cX2_leaveQueue 4 none, Cond.fieldLink RX2 156 "FutexKernel$Task" "address" "I", Cond.fieldLink RX2 76 "FutexKernel$Task" "state" "I", Cond.fieldLink RX2 166 "FutexKernel$Task" "deadline" "I", Cond.fieldLink RX2 9 "FutexKernel" "words" "[I", Cond.constant RX2 218 (2147483647), Cond.methodLink RX2 186 yX2_isAddress, Cond.static yX2_isAddress, Cond.code yX2_isAddress cX2_isAddress 1 (some .boolean), Cond.methodLink RX2 215 yX2_firstLockingAt, Cond.instanceMethod yX2_firstLockingAt, Cond.selects RX2 yX2_firstLockingAt yX2_firstLockingAt, Cond.code yX2_firstLockingAt cX2_firstLockingAt 2 (some (.object "FutexKernel$Task")), Cond.methodLink RX2 208 yX2_firstAt, Cond.instanceMethod yX2_firstAt, Cond.selects RX2 yX2_firstAt yX2_firstAt, Cond.code yX2_firstAt cX2_firstAt 10 (some (.object "FutexKernel$Task"))]
def wsX2_endWait_r2 : List Cond := [Cond.fieldLink RX2 15 "FutexKernel" "tasks" "[LFutexKernel$Task;", Cond.fieldLink RX2 205 "FutexKernel$Task" "mask" "I", Cond.methodLink RX2 201 yX1_isAheadOf, Cond.instanceMethod yX1_isAheadOf, Cond.selects RX1 yX1_isAheadOf yX1_isAheadOf, Cond.initialized RX1, Cond.code yX1_isAheadOf cX1_isAheadOf 2 (some .boolean), Cond.fieldLink RX1 22 "FutexKernel$Task" "priority" "I", Cond.fieldLink RX1 37 "FutexKernel$Task" "joined" "I"]
def wsX2_endWait : List Cond := .code yX2_endWait cX2_endWait 3 none :: ((wsX2_endWait_r1 ++ wsX2_endWait_r2) ++ wsX10 ++ wsX20)
def wsX2_wakeFirst_r1 : List Cond := [Cond.methodLink RX2 208 yX2_firstAt, Cond.instanceMethod yX2_firstAt, Cond.selects RX2 yX2_firstAt yX2_firstAt, Cond.initialized RX2, Cond.code yX2_firstAt cX2_firstAt 10 (some (.object "FutexKernel$Task")), Cond.fieldLink RX2 15 "FutexKernel" "tasks" "[LFutexKernel$Task;", Cond.fieldLink RX2 156 "FutexKernel$Task" "address" "I", Cond.fieldLink RX2 76 "FutexKernel$Task" "state" "I", Cond.fieldLink RX2 205 "FutexKernel$Task" "mask" "I", Cond.methodLink RX2 201 yX1_isAheadOf, Cond.instanceMethod yX1_isAheadOf, Cond.selects RX1 yX1_isAheadOf yX1_isAheadOf, Cond.initialized RX1, Cond.code yX1_isAheadOf cX1_isAheadOf 2 (some .boolean), Cond.fieldLink RX1 22 "FutexKernel$Task" "priority" "I", Cond.fieldLink RX1 37 "FutexKernel$Task" "joined" "I", Cond.methodLink RX2 132 yX2_endWait, Cond.instanceMethod yX2_endWait, Cond.selects RX2 yX2_endWait yX2_endWait, Cond.code yX2_endWait cX2_endWait 3 none, Cond.fieldLink RX2 150 "FutexKernel$Task" "result" "I", Cond.fieldLink RX2 23 "FutexKernel" "endedWaits" "I", Cond.fieldLink RX2 153 "FutexKernel$Task" "serial" "I", Cond.methodLink RX2 139 yX2_leaveQueue]
def wsX2_wakeFirst_r2 : List Cond := [Cond.instanceMethod yX2_leaveQueue, Cond.selects RX2 yX2_leaveQueue yX2_leaveQueue, Cond.code yX2_leaveQueue cX2_leaveQueue 4 none, Cond.fieldLink RX2 166 "FutexKernel$Task" "deadline" "I", Cond.fieldLink RX2 9 "FutexKernel" "words" "[I", Cond.constant RX2 218 (2147483647), Cond.methodLink RX2 186 yX2_isAddress, Cond.static yX2_isAddress, Cond.code yX2_isAddress cX2_isAddress 1 (some .boolean), Cond.methodLink RX2 215 yX2_firstLockingAt, Cond.instanceMethod yX2_firstLockingAt, Cond.selects RX2 yX2_firstLockingAt yX2_firstLockingAt, Cond.code yX2_firstLockingAt cX2_firstLockingAt 2 (some (.object "FutexKernel$Task"))]
def wsX2_wakeFirst : List Cond := .code yX2_wakeFirst cX2_wakeFirst 6 (some .int) :: ((wsX2_wakeFirst_r1 ++ wsX2_wakeFirst_r2) ++ wsX20 ++ wsX10)
def wsX2_wake_r1 : List Cond := [Cond.methodLink RX2 35 yX2_taskOf, Cond.instanceMethod yX2_taskOf, Cond.selects RX2 yX2_taskOf yX2_taskOf, Cond.initialized RX2, Cond.code yX2_taskOf cX2_taskOf 2 (some (.object "FutexKernel$Task")), Cond.classLink RX2 105 "java/lang/IndexOutOfBoundsException", Cond.initialized "java/lang/IndexOutOfBoundsException", Cond.fieldLink RX2 15 "FutexKernel" "tasks" "[LFutexKernel$Task;", Cond.methodLink RX2 39 yX2_requireAddress, Cond.static yX2_requireAddress, Cond.code yX2_requireAddress cX2_requireAddress 1 none, Cond.methodLink RX2 186 yX2_isAddress, Cond.static yX2_isAddress, Cond.code yX2_isAddress cX2_isAddress 1 (some .boolean), Cond.methodLink RX2 46 yX2_requireBetween, Cond.static yX2_requireBetween, Cond.code yX2_requireBetween cX2_requireBetween 3 none, Cond.classLink RX2 58 "java/lang/IllegalArgumentException", Cond.initialized "java/lang/IllegalArgumentException", Cond.methodLink RX2 42 yX2_requireRunning, Cond.static yX2_requireRunning, Cond.code yX2_requireRunning cX2_requireRunning 1 none, Cond.classLink RX2 84 "java/lang/IllegalStateException", Cond.initialized "java/lang/IllegalStateException"]
def wsX2_wake_r2 : List Cond := [Cond.fieldLink RX2 76 "FutexKernel$Task" "state" "I", Cond.methodLink RX2 54 yX2_wakeFirst, Cond.instanceMethod yX2_wakeFirst, Cond.selects RX2 yX2_wakeFirst yX2_wakeFirst, Cond.code yX2_wakeFirst cX2_wakeFirst 6 (some .int), Cond.methodLink RX2 208 yX2_firstAt, Cond.instanceMethod yX2_firstAt, Cond.selects RX2 yX2_firstAt yX2_firstAt, Cond.code yX2_firstAt cX2_firstAt 10 (some (.object "FutexKernel$Task")), Cond.fieldLink RX2 156 "FutexKernel$Task" "address" "I", Cond.fieldLink RX2 205 "FutexKernel$Task" "mask" "I", Cond.methodLink RX2 201 yX1_isAheadOf, Cond.instanceMethod yX1_isAheadOf, Cond.selects RX1 yX1_isAheadOf yX1_isAheadOf, Cond.initialized RX1, Cond.code yX1_isAheadOf cX1_isAheadOf 2 (some .boolean), Cond.fieldLink RX1 22 "FutexKernel$Task" "priority" "I", Cond.fieldLink RX1 37 "FutexKernel$Task" "joined" "I", Cond.methodLink RX2 132 yX2_endWait, Cond.instanceMethod yX2_endWait, Cond.selects RX2 yX2_endWait yX2_endWait, Cond.code yX2_endWait cX2_endWait 3 none, Cond.fieldLink RX2 150 "FutexKernel$Task" "result" "I", Cond.fieldLink RX2 23 "FutexKernel" "endedWaits" "I"]
def wsX2_wake_r3 : List Cond := [Cond.fieldLink RX2 153 "FutexKernel$Task" "serial" "I", Cond.methodLink RX2 139 yX2_leaveQueue, Cond.instanceMethod yX2_leaveQueue, Cond.selects RX2 yX2_leaveQueue yX2_leaveQueue, Cond.code yX2_leaveQueue cX2_leaveQueue 4 none, Cond.fieldLink RX2 166 "FutexKernel$Task" "deadline" "I", Cond.fieldLink RX2 9 "FutexKernel" "words" "[I", Cond.constant RX2 218 (2147483647), Cond.methodLink RX2 215 yX2_firstLockingAt, Cond.instanceMethod yX2_firstLockingAt, Cond.selects RX2 yX2_firstLockingAt yX2_firstLockingAt, Cond.code yX2_firstLockingAt cX2_firstLockingAt 2 (some (.object "FutexKernel$Task"))]
def wsX2_wake : List Cond := .code yX2_wake cX2_wake 6 (some .int) :: ((wsX2_wake_r1 ++ (wsX2_wake_r2 ++ wsX2_wake_r3)) ++ wsX20 ++ wsX10 ++ (vx_atS RX2 109 "java/lang/IndexOutOfBoundsException" ["java/lang/RuntimeException", "java/lang/Exception"]).filter goodWord ++ (vx_atS RX2 62 "java/lang/IllegalArgumentException" ["java/lang/RuntimeException", "java/lang/Exception"]).filter goodWord ++ (vx_atS RX2 88 "java/lang/IllegalStateException" ["java/lang/RuntimeException", "java/lang/Exception"]).filter goodWord)
def wsX2_moveFirst : List Cond := .code yX2_moveFirst cX2_moveFirst 6 (some .int) :: ([.methodLink RX2 208 yX2_firstAt, .instanceMethod yX2_firstAt, .selects RX2 yX2_firstAt yX2_firstAt, .initialized RX2, .code yX2_firstAt cX2_firstAt 10 (some (.object "FutexKernel$Task")), .fieldLink RX2 15 "FutexKernel" "tasks" "[LFutexKernel$Task;", .fieldLink RX2 156 "FutexKernel$Task" "address" "I", .fieldLink RX2 76 "FutexKernel$Task" "state" "I", .fieldLink RX2 205 "FutexKernel$Task" "mask" "I", .methodLink RX2 201 yX1_isAheadOf, .instanceMethod yX1_isAheadOf, .selects RX1 yX1_isAheadOf yX1_isAheadOf, .initialized RX1, .code yX1_isAheadOf cX1_isAheadOf 2 (some .boolean), .fieldLink RX1 22 "FutexKernel$Task" "priority" "I", .fieldLink RX1 37 "FutexKernel$Task" "joined" "I", .methodLink RX2 159 yX2_joinQueue, .instanceMethod yX2_joinQueue, .selects RX2 yX2_joinQueue yX2_joinQueue, .code yX2_joinQueue cX2_joinQueue 3 none, .fieldLink RX2 29 "FutexKernel" "joins" "I", .fieldLink RX2 198 "FutexKernel$Task" "joined" "I"] ++ wsX20 ++ wsX10)
def wsX2_requeue_r1 : List Cond := [Cond.classLink RX2 58 "java/lang/IllegalArgumentException", Cond.initialized "java/lang/IllegalArgumentException", Cond.fieldLink RX2 9 "FutexKernel" "words" "[I", Cond.methodLink RX2 35 yX2_taskOf, Cond.instanceMethod yX2_taskOf, Cond.selects RX2 yX2_taskOf yX2_taskOf, Cond.initialized RX2, Cond.code yX2_taskOf cX2_taskOf 2 (some (.object "FutexKernel$Task")), Cond.classLink RX2 105 "java/lang/IndexOutOfBoundsException", Cond.initialized "java/lang/IndexOutOfBoundsException", Cond.fieldLink RX2 15 "FutexKernel" "tasks" "[LFutexKernel$Task;", Cond.methodLink RX2 39 yX2_requireAddress, Cond.static yX2_requireAddress, Cond.code yX2_requireAddress cX2_requireAddress 1 none, Cond.methodLink RX2 186 yX2_isAddress, Cond.static yX2_isAddress, Cond.code yX2_isAddress cX2_isAddress 1 (some .boolean), Cond.methodLink RX2 46 yX2_requireBetween, Cond.static yX2_requireBetween, Cond.code yX2_requireBetween cX2_requireBetween 3 none, Cond.methodLink RX2 42 yX2_requireRunning, Cond.static yX2_requireRunning, Cond.code yX2_requireRunning cX2_requireRunning 1 none, Cond.classLink RX2 84 "java/lang/IllegalStateException"]
def wsX2_requeue_r2 : List Cond := [Cond.initialized "java/lang/IllegalStateException", Cond.fieldLink RX2 76 "FutexKernel$Task" "state" "I", Cond.methodLink RX2 54 yX2_wakeFirst, Cond.instanceMethod yX2_wakeFirst, Cond.selects RX2 yX2_wakeFirst yX2_wakeFirst, Cond.code yX2_wakeFirst cX2_wakeFirst 6 (some .int), Cond.methodLink RX2 208 yX2_firstAt, Cond.instanceMethod yX2_firstAt, Cond.selects RX2 yX2_firstAt yX2_firstAt, Cond.code yX2_firstAt cX2_firstAt 10 (some (.object "FutexKernel$Task")), Cond.fieldLink RX2 156 "FutexKernel$Task" "address" "I", Cond.fieldLink RX2 205 "FutexKernel$Task" "mask" "I", Cond.methodLink RX2 201 yX1_isAheadOf, Cond.instanceMethod yX1_isAheadOf, Cond.selects RX1 yX1_isAheadOf yX1_isAheadOf, Cond.initialized RX1, Cond.code yX1_isAheadOf cX1_isAheadOf 2 (some .boolean), Cond.fieldLink RX1 22 "FutexKernel$Task" "priority" "I", Cond.fieldLink RX1 37 "FutexKernel$Task" "joined" "I", Cond.methodLink RX2 132 yX2_endWait, Cond.instanceMethod yX2_endWait, Cond.selects RX2 yX2_endWait yX2_endWait, Cond.code yX2_endWait cX2_endWait 3 none, Cond.fieldLink RX2 150 "FutexKernel$Task" "result" "I"]
def wsX2_requeue_r3 : List Cond := [Cond.fieldLink RX2 23 "FutexKernel" "endedWaits" "I", Cond.fieldLink RX2 153 "FutexKernel$Task" "serial" "I", Cond.methodLink RX2 139 yX2_leaveQueue, Cond.instanceMethod yX2_leaveQueue, Cond.selects RX2 yX2_leaveQueue yX2_leaveQueue, Cond.code yX2_leaveQueue cX2_leaveQueue 4 none, Cond.fieldLink RX2 166 "FutexKernel$Task" "deadline" "I", Cond.constant RX2 218 (2147483647), Cond.methodLink RX2 215 yX2_firstLockingAt, Cond.instanceMethod yX2_firstLockingAt, Cond.selects RX2 yX2_firstLockingAt yX2_firstLockingAt, Cond.code yX2_firstLockingAt cX2_firstLockingAt 2 (some (.object "FutexKernel$Task")), Cond.methodLink RX2 65 yX2_moveFirst, Cond.instanceMethod yX2_moveFirst, Cond.selects RX2 yX2_moveFirst yX2_moveFirst, Cond.code yX2_moveFirst cX2_moveFirst 6 (some .int), Cond.methodLink RX2 159 yX2_joinQueue, Cond.instanceMethod yX2_joinQueue, Cond.selects RX2 yX2_joinQueue yX2_joinQueue, Cond.code yX2_joinQueue cX2_joinQueue 3 none, Cond.fieldLink RX2 29 "FutexKernel" "joins" "I", Cond.fieldLink RX2 198 "FutexKernel$Task" "joined" "I"]
def wsX2_requeue : List Cond := .code yX2_requeue cX2_requeue 9 (some .int) :: ((wsX2_requeue_r1 ++ (wsX2_requeue_r2 ++ wsX2_requeue_r3)) ++ wsX20 ++ wsX10 ++ (vx_atS RX2 62 "java/lang/IllegalArgumentException" ["java/lang/RuntimeException", "java/lang/Exception"]).filter goodWord ++ (vx_atS RX2 109 "java/lang/IndexOutOfBoundsException" ["java/lang/RuntimeException", "java/lang/Exception"]).filter goodWord ++ (vx_atS RX2 88 "java/lang/IllegalStateException" ["java/lang/RuntimeException", "java/lang/Exception"]).filter goodWord)
def wsX2_giveLock_r1 : List Cond := [Cond.constant RX2 83 (-2147483648), Cond.fieldLink RX2 9 "FutexKernel" "words" "[I", Cond.fieldLink RX2 173 "FutexKernel$Task" "number" "I", Cond.fieldLink RX2 89 "FutexKernel$Task" "held" "LFutexKernel$LockList;", Cond.methodLink RX2 186 yX2_isAddress, Cond.static yX2_isAddress, Cond.initialized RX2, Cond.code yX2_isAddress cX2_isAddress 1 (some .boolean), Cond.methodLink RX2 215 yX2_firstLockingAt, Cond.instanceMethod yX2_firstLockingAt, Cond.selects RX2 yX2_firstLockingAt yX2_firstLockingAt, Cond.code yX2_firstLockingAt cX2_firstLockingAt 2 (some (.object "FutexKernel$Task")), Cond.methodLink RX2 208 yX2_firstAt, Cond.instanceMethod yX2_firstAt, Cond.selects RX2 yX2_firstAt yX2_firstAt, Cond.code yX2_firstAt cX2_firstAt 10 (some (.object "FutexKernel$Task")), Cond.fieldLink RX2 15 "FutexKernel" "tasks" "[LFutexKernel$Task;", Cond.fieldLink RX2 156 "FutexKernel$Task" "address" "I", Cond.fieldLink RX2 76 "FutexKernel$Task" "state" "I", Cond.fieldLink RX2 205 "FutexKernel$Task" "mask" "I", Cond.methodLink RX2 201 yX1_isAheadOf, Cond.instanceMethod yX1_isAheadOf, Cond.selects RX1 yX1_isAheadOf yX1_isAheadOf, Cond.initialized RX1]
def wsX2_giveLock_r2 : List Cond := [Cond.code yX1_isAheadOf cX1_isAheadOf 2 (some .boolean), Cond.fieldLink RX1 22 "FutexKernel$Task" "priority" "I", Cond.fieldLink RX1 37 "FutexKernel$Task" "joined" "I", Cond.methodLink RX2 222 yX0_add, Cond.instanceMethod yX0_add, Cond.selects RX0 yX0_add yX0_add, Cond.initialized RX0, Cond.code yX0_add cX0_add 2 none, Cond.fieldLink RX0 15 "FutexKernel$LockList" "size" "I", Cond.fieldLink RX0 9 "FutexKernel$LockList" "addresses" "[I", Cond.methodLink RX0 19 yX0_placeOf, Cond.instanceMethod yX0_placeOf, Cond.selects RX0 yX0_placeOf yX0_placeOf, Cond.code yX0_placeOf cX0_placeOf 3 (some .int)]
def wsX2_giveLock : List Cond := .code yX2_giveLock cX2_giveLock 5 none :: ((wsX2_giveLock_r1 ++ wsX2_giveLock_r2) ++ wsX20 ++ wsX10 ++ wsX00)
def wsX2_ownerAt : List Cond := .code yX2_ownerAt cX2_ownerAt 3 (some (.object "FutexKernel$Task")) :: ([.fieldLink RX2 9 "FutexKernel" "words" "[I", .fieldLink RX2 15 "FutexKernel" "tasks" "[LFutexKernel$Task;", .methodLink RX2 186 yX2_isAddress, .static yX2_isAddress, .initialized RX2, .code yX2_isAddress cX2_isAddress 1 (some .boolean)] ++ wsX20)
def wsX2_isHeldUpBy : List Cond := .code yX2_isHeldUpBy cX2_isHeldUpBy 5 (some .boolean) :: ([.fieldLink RX2 76 "FutexKernel$Task" "state" "I", .fieldLink RX2 156 "FutexKernel$Task" "address" "I", .methodLink RX2 73 yX2_ownerAt, .instanceMethod yX2_ownerAt, .selects RX2 yX2_ownerAt yX2_ownerAt, .initialized RX2, .code yX2_ownerAt cX2_ownerAt 3 (some (.object "FutexKernel$Task")), .fieldLink RX2 9 "FutexKernel" "words" "[I", .fieldLink RX2 15 "FutexKernel" "tasks" "[LFutexKernel$Task;", .methodLink RX2 186 yX2_isAddress, .static yX2_isAddress, .code yX2_isAddress cX2_isAddress 1 (some .boolean)] ++ wsX10 ++ wsX20)
def wsX2_lock_r1 : List Cond := [Cond.fieldLink RX2 9 "FutexKernel" "words" "[I", Cond.constant RX2 68 (1073741824), Cond.fieldLink RX2 76 "FutexKernel$Task" "state" "I", Cond.constant RX2 83 (-2147483648), Cond.methodLink RX2 35 yX2_taskOf, Cond.instanceMethod yX2_taskOf, Cond.selects RX2 yX2_taskOf yX2_taskOf, Cond.initialized RX2, Cond.code yX2_taskOf cX2_taskOf 2 (some (.object "FutexKernel$Task")), Cond.classLink RX2 105 "java/lang/IndexOutOfBoundsException", Cond.initialized "java/lang/IndexOutOfBoundsException", Cond.fieldLink RX2 15 "FutexKernel" "tasks" "[LFutexKernel$Task;", Cond.methodLink RX2 39 yX2_requireAddress, Cond.static yX2_requireAddress, Cond.code yX2_requireAddress cX2_requireAddress 1 none, Cond.methodLink RX2 186 yX2_isAddress, Cond.static yX2_isAddress, Cond.code yX2_isAddress cX2_isAddress 1 (some .boolean), Cond.methodLink RX2 46 yX2_requireBetween, Cond.static yX2_requireBetween, Cond.code yX2_requireBetween cX2_requireBetween 3 none, Cond.classLink RX2 58 "java/lang/IllegalArgumentException", Cond.initialized "java/lang/IllegalArgumentException", Cond.methodLink RX2 42 yX2_requireRunning]
def wsX2_lock_r2 : List Cond := [Cond.static yX2_requireRunning, Cond.code yX2_requireRunning cX2_requireRunning 1 none, Cond.classLink RX2 84 "java/lang/IllegalStateException", Cond.initialized "java/lang/IllegalStateException", Cond.methodLink RX2 69 yX2_giveLock, Cond.instanceMethod yX2_giveLock, Cond.selects RX2 yX2_giveLock yX2_giveLock, Cond.code yX2_giveLock cX2_giveLock 5 none, Cond.fieldLink RX2 173 "FutexKernel$Task" "number" "I", Cond.fieldLink RX2 89 "FutexKernel$Task" "held" "LFutexKernel$LockList;", Cond.methodLink RX2 215 yX2_firstLockingAt, Cond.instanceMethod yX2_firstLockingAt, Cond.selects RX2 yX2_firstLockingAt yX2_firstLockingAt, Cond.code yX2_firstLockingAt cX2_firstLockingAt 2 (some (.object "FutexKernel$Task")), Cond.methodLink RX2 208 yX2_firstAt, Cond.instanceMethod yX2_firstAt, Cond.selects RX2 yX2_firstAt yX2_firstAt, Cond.code yX2_firstAt cX2_firstAt 10 (some (.object "FutexKernel$Task")), Cond.fieldLink RX2 156 "FutexKernel$Task" "address" "I", Cond.fieldLink RX2 205 "FutexKernel$Task" "mask" "I", Cond.methodLink RX2 201 yX1_isAheadOf, Cond.instanceMethod yX1_isAheadOf, Cond.selects RX1 yX1_isAheadOf yX1_isAheadOf, Cond.initialized RX1]
def wsX2_lock_r3 : List Cond := [Cond.code yX1_isAheadOf cX1_isAheadOf 2 (some .boolean), Cond.fieldLink RX1 22 "FutexKernel$Task" "priority" "I", Cond.fieldLink RX1 37 "FutexKernel$Task" "joined" "I", Cond.methodLink RX2 222 yX0_add, Cond.instanceMethod yX0_add, Cond.selects RX0 yX0_add yX0_add, Cond.initialized RX0, Cond.code yX0_add cX0_add 2 none, Cond.fieldLink RX0 15 "FutexKernel$LockList" "size" "I", Cond.fieldLink RX0 9 "FutexKernel$LockList" "addresses" "[I", Cond.methodLink RX0 19 yX0_placeOf, Cond.instanceMethod yX0_placeOf, Cond.selects RX0 yX0_placeOf yX0_placeOf, Cond.code yX0_placeOf cX0_placeOf 3 (some .int), Cond.methodLink RX2 73 yX2_ownerAt, Cond.instanceMethod yX2_ownerAt, Cond.selects RX2 yX2_ownerAt yX2_ownerAt, Cond.code yX2_ownerAt cX2_ownerAt 3 (some (.object "FutexKernel$Task")), Cond.methodLink RX2 79 yX2_isHeldUpBy, Cond.instanceMethod yX2_isHeldUpBy, Cond.selects RX2 yX2_isHeldUpBy yX2_isHeldUpBy, Cond.code yX2_isHeldUpBy cX2_isHeldUpBy 5 (some .boolean), Cond.methodLink RX2 50 yX2_beginWait, Cond.instanceMethod yX2_beginWait]
def wsX2_lock_r4 : List Cond := [Cond.selects RX2 yX2_beginWait yX2_beginWait, Cond.code yX2_beginWait cX2_beginWait 6 none, Cond.fieldLink RX2 19 "FutexKernel" "time" "I", Cond.fieldLink RX2 166 "FutexKernel$Task" "deadline" "I", Cond.fieldLink RX2 26 "FutexKernel" "begunWaits" "I", Cond.fieldLink RX2 212 "FutexKernel$Task" "begun" "I", Cond.methodLink RX2 159 yX2_joinQueue, Cond.instanceMethod yX2_joinQueue, Cond.selects RX2 yX2_joinQueue yX2_joinQueue, Cond.code yX2_joinQueue cX2_joinQueue 3 none, Cond.fieldLink RX2 29 "FutexKernel" "joins" "I", Cond.fieldLink RX2 198 "FutexKernel$Task" "joined" "I"]
def wsX2_lock : List Cond := .code yX2_lock cX2_lock 7 (some .int) :: ((wsX2_lock_r1 ++ (wsX2_lock_r2 ++ (wsX2_lock_r3 ++ wsX2_lock_r4))) ++ wsX20 ++ wsX10 ++ wsX00 ++ (vx_atS RX2 109 "java/lang/IndexOutOfBoundsException" ["java/lang/RuntimeException", "java/lang/Exception"]).filter goodWord ++ (vx_atS RX2 62 "java/lang/IllegalArgumentException" ["java/lang/RuntimeException", "java/lang/Exception"]).filter goodWord ++ (vx_atS RX2 88 "java/lang/IllegalStateException" ["java/lang/RuntimeException", "java/lang/Exception"]).filter goodWord)
def wsX2_passOn_r1 : List Cond := [Cond.constant RX2 68 (1073741824), Cond.fieldLink RX2 173 "FutexKernel$Task" "number" "I", Cond.fieldLink RX2 9 "FutexKernel" "words" "[I", Cond.methodLink RX2 215 yX2_firstLockingAt, Cond.instanceMethod yX2_firstLockingAt, Cond.selects RX2 yX2_firstLockingAt yX2_firstLockingAt, Cond.initialized RX2, Cond.code yX2_firstLockingAt cX2_firstLockingAt 2 (some (.object "FutexKernel$Task")), Cond.methodLink RX2 208 yX2_firstAt, Cond.instanceMethod yX2_firstAt, Cond.selects RX2 yX2_firstAt yX2_firstAt, Cond.code yX2_firstAt cX2_firstAt 10 (some (.object "FutexKernel$Task")), Cond.fieldLink RX2 15 "FutexKernel" "tasks" "[LFutexKernel$Task;", Cond.fieldLink RX2 156 "FutexKernel$Task" "address" "I", Cond.fieldLink RX2 76 "FutexKernel$Task" "state" "I", Cond.fieldLink RX2 205 "FutexKernel$Task" "mask" "I", Cond.methodLink RX2 201 yX1_isAheadOf, Cond.instanceMethod yX1_isAheadOf, Cond.selects RX1 yX1_isAheadOf yX1_isAheadOf, Cond.initialized RX1, Cond.code yX1_isAheadOf cX1_isAheadOf 2 (some .boolean), Cond.fieldLink RX1 22 "FutexKernel$Task" "priority" "I", Cond.fieldLink RX1 37 "FutexKernel$Task" "joined" "I", Cond.methodLink RX2 132 yX2_endWait]
def wsX2_passOn_r2 : List Cond := [Cond.instanceMethod yX2_endWait, Cond.selects RX2 yX2_endWait yX2_endWait, Cond.code yX2_endWait cX2_endWait 3 none, Cond.fieldLink RX2 150 "FutexKernel$Task" "result" "I", Cond.fieldLink RX2 23 "FutexKernel" "endedWaits" "I", Cond.fieldLink RX2 153 "FutexKernel$Task" "serial" "I", Cond.methodLink RX2 139 yX2_leaveQueue, Cond.instanceMethod yX2_leaveQueue, Cond.selects RX2 yX2_leaveQueue yX2_leaveQueue, Cond.code yX2_leaveQueue cX2_leaveQueue 4 none, Cond.fieldLink RX2 166 "FutexKernel$Task" "deadline" "I", Cond.constant RX2 218 (2147483647), Cond.methodLink RX2 186 yX2_isAddress, Cond.static yX2_isAddress, Cond.code yX2_isAddress cX2_isAddress 1 (some .boolean), Cond.methodLink RX2 69 yX2_giveLock, Cond.instanceMethod yX2_giveLock, Cond.selects RX2 yX2_giveLock yX2_giveLock, Cond.code yX2_giveLock cX2_giveLock 5 none, Cond.constant RX2 83 (-2147483648), Cond.fieldLink RX2 89 "FutexKernel$Task" "held" "LFutexKernel$LockList;", Cond.methodLink RX2 222 yX0_add, Cond.instanceMethod yX0_add, Cond.selects RX0 yX0_add yX0_add]
def wsX2_passOn_r3 : List Cond := [Cond.initialized RX0, Cond.code yX0_add cX0_add 2 none, Cond.fieldLink RX0 15 "FutexKernel$LockList" "size" "I", Cond.fieldLink RX0 9 "FutexKernel$LockList" "addresses" "[I", Cond.methodLink RX0 19 yX0_placeOf, Cond.instanceMethod yX0_placeOf, Cond.selects RX0 yX0_placeOf yX0_placeOf, Cond.code yX0_placeOf cX0_placeOf 3 (some .int)]
def wsX2_passOn : List Cond := .code yX2_passOn cX2_passOn 5 (some .int) :: ((wsX2_passOn_r1 ++ (wsX2_passOn_r2 ++ wsX2_passOn_r3)) ++ wsX10 ++ wsX20 ++ wsX00)
def wsX2_unlock_r1 : List Cond := [Cond.classLink RX2 84 "java/lang/IllegalStateException", Cond.initialized "java/lang/IllegalStateException", Cond.fieldLink RX2 89 "FutexKernel$Task" "held" "LFutexKernel$LockList;", Cond.methodLink RX2 35 yX2_taskOf, Cond.instanceMethod yX2_taskOf, Cond.selects RX2 yX2_taskOf yX2_taskOf, Cond.initialized RX2, Cond.code yX2_taskOf cX2_taskOf 2 (some (.object "FutexKernel$Task")), Cond.classLink RX2 105 "java/lang/IndexOutOfBoundsException", Cond.initialized "java/lang/IndexOutOfBoundsException", Cond.fieldLink RX2 15 "FutexKernel" "tasks" "[LFutexKernel$Task;", Cond.methodLink RX2 39 yX2_requireAddress, Cond.static yX2_requireAddress, Cond.code yX2_requireAddress cX2_requireAddress 1 none, Cond.methodLink RX2 186 yX2_isAddress, Cond.static yX2_isAddress, Cond.code yX2_isAddress cX2_isAddress 1 (some .boolean), Cond.methodLink RX2 42 yX2_requireRunning, Cond.static yX2_requireRunning, Cond.code yX2_requireRunning cX2_requireRunning 1 none, Cond.fieldLink RX2 76 "FutexKernel$Task" "state" "I", Cond.methodLink RX2 73 yX2_ownerAt, Cond.instanceMethod yX2_ownerAt, Cond.selects RX2 yX2_ownerAt yX2_ownerAt]
def wsX2_unlock_r2 : List Cond := [Cond.code yX2_ownerAt cX2_ownerAt 3 (some (.object "FutexKernel$Task")), Cond.fieldLink RX2 9 "FutexKernel" "words" "[I", Cond.methodLink RX2 93 yX0_drop, Cond.instanceMethod yX0_drop, Cond.selects RX0 yX0_drop yX0_drop, Cond.initialized RX0, Cond.code yX0_drop cX0_drop 4 none, Cond.fieldLink RX0 15 "FutexKernel$LockList" "size" "I", Cond.fieldLink RX0 9 "FutexKernel$LockList" "addresses" "[I", Cond.methodLink RX0 19 yX0_placeOf, Cond.instanceMethod yX0_placeOf, Cond.selects RX0 yX0_placeOf yX0_placeOf, Cond.code yX0_placeOf cX0_placeOf 3 (some .int), Cond.methodLink RX2 98 yX2_passOn, Cond.instanceMethod yX2_passOn, Cond.selects RX2 yX2_passOn yX2_passOn, Cond.code yX2_passOn cX2_passOn 5 (some .int), Cond.constant RX2 68 (1073741824), Cond.fieldLink RX2 173 "FutexKernel$Task" "number" "I", Cond.methodLink RX2 215 yX2_firstLockingAt, Cond.instanceMethod yX2_firstLockingAt, Cond.selects RX2 yX2_firstLockingAt yX2_firstLockingAt, Cond.code yX2_firstLockingAt cX2_firstLockingAt 2 (some (.object "FutexKernel$Task")), Cond.methodLink RX2 208 yX2_firstAt]
def wsX2_unlock_r3 : List Cond := [Cond.instanceMethod yX2_firstAt, Cond.selects RX2 yX2_firstAt yX2_firstAt, Cond.code yX2_firstAt cX2_firstAt 10 (some (.object "FutexKernel$Task")), Cond.fieldLink RX2 156 "FutexKernel$Task" "address" "I", Cond.fieldLink RX2 205 "FutexKernel$Task" "mask" "I", Cond.methodLink RX2 201 yX1_isAheadOf, Cond.instanceMethod yX1_isAheadOf, Cond.selects RX1 yX1_isAheadOf yX1_isAheadOf, Cond.initialized RX1, Cond.code yX1_isAheadOf cX1_isAheadOf 2 (some .boolean), Cond.fieldLink RX1 22 "FutexKernel$Task" "priority" "I", Cond.fieldLink RX1 37 "FutexKernel$Task" "joined" "I", Cond.methodLink RX2 132 yX2_endWait, Cond.instanceMethod yX2_endWait, Cond.selects RX2 yX2_endWait yX2_endWait, Cond.code yX2_endWait cX2_endWait 3 none, Cond.fieldLink RX2 150 "FutexKernel$Task" "result" "I", Cond.fieldLink RX2 23 "FutexKernel" "endedWaits" "I", Cond.fieldLink RX2 153 "FutexKernel$Task" "serial" "I", Cond.methodLink RX2 139 yX2_leaveQueue, Cond.instanceMethod yX2_leaveQueue, Cond.selects RX2 yX2_leaveQueue yX2_leaveQueue, Cond.code yX2_leaveQueue cX2_leaveQueue 4 none, Cond.fieldLink RX2 166 "FutexKernel$Task" "deadline" "I"]
def wsX2_unlock_r4 : List Cond := [Cond.constant RX2 218 (2147483647), Cond.methodLink RX2 69 yX2_giveLock, Cond.instanceMethod yX2_giveLock, Cond.selects RX2 yX2_giveLock yX2_giveLock, Cond.code yX2_giveLock cX2_giveLock 5 none, Cond.constant RX2 83 (-2147483648), Cond.methodLink RX2 222 yX0_add, Cond.instanceMethod yX0_add, Cond.selects RX0 yX0_add yX0_add, Cond.code yX0_add cX0_add 2 none]
def wsX2_unlock : List Cond := .code yX2_unlock cX2_unlock 4 (some .int) :: ((wsX2_unlock_r1 ++ (wsX2_unlock_r2 ++ (wsX2_unlock_r3 ++ wsX2_unlock_r4))) ++ wsX10 ++ wsX20 ++ wsX00 ++ (vx_atS RX2 88 "java/lang/IllegalStateException" ["java/lang/RuntimeException", "java/lang/Exception"]).filter goodWord ++ (vx_atS RX2 109 "java/lang/IndexOutOfBoundsException" ["java/lang/RuntimeException", "java/lang/Exception"]).filter goodWord)
def wsX2_locks : List Cond := .code yX2_locks cX2_locks 2 (some .int) :: ([.fieldLink RX2 89 "FutexKernel$Task" "held" "LFutexKernel$LockList;", .fieldLink RX2 102 "FutexKernel$LockList" "size" "I", .methodLink RX2 35 yX2_taskOf, .instanceMethod yX2_taskOf, .selects RX2 yX2_taskOf yX2_taskOf, .initialized RX2, .code yX2_taskOf cX2_taskOf 2 (some (.object "FutexKernel$Task")), .classLink RX2 105 "java/lang/IndexOutOfBoundsException", .initialized "java/lang/IndexOutOfBoundsException", .fieldLink RX2 15 "FutexKernel" "tasks" "[LFutexKernel$Task;"] ++ wsX10 ++ wsX00 ++ wsX20 ++ (vx_atS RX2 109 "java/lang/IndexOutOfBoundsException" ["java/lang/RuntimeException", "java/lang/Exception"]).filter goodWord)
def wsX2_lockAt : List Cond := .code yX2_lockAt cX2_lockAt 4 (some .int) :: ([.classLink RX2 105 "java/lang/IndexOutOfBoundsException", .initialized "java/lang/IndexOutOfBoundsException", .fieldLink RX2 89 "FutexKernel$Task" "held" "LFutexKernel$LockList;", .fieldLink RX2 102 "FutexKernel$LockList" "size" "I", .methodLink RX2 35 yX2_taskOf, .instanceMethod yX2_taskOf, .selects RX2 yX2_taskOf yX2_taskOf, .initialized RX2, .code yX2_taskOf cX2_taskOf 2 (some (.object "FutexKernel$Task")), .fieldLink RX2 15 "FutexKernel" "tasks" "[LFutexKernel$Task;", .methodLink RX2 110 yX0_addressAt, .instanceMethod yX0_addressAt, .selects RX0 yX0_addressAt yX0_addressAt, .initialized RX0, .code yX0_addressAt cX0_addressAt 2 (some .int), .fieldLink RX0 15 "FutexKernel$LockList" "size" "I", .fieldLink RX0 9 "FutexKernel$LockList" "addresses" "[I"] ++ wsX10 ++ wsX00 ++ wsX20 ++ (vx_atS RX2 109 "java/lang/IndexOutOfBoundsException" ["java/lang/RuntimeException", "java/lang/Exception"]).filter goodWord)
def wsX2_blockedByOneOf : List Cond := .code yX2_blockedByOneOf cX2_blockedByOneOf 8 (some .int) :: ([.fieldLink RX2 15 "FutexKernel" "tasks" "[LFutexKernel$Task;", .fieldLink RX2 76 "FutexKernel$Task" "state" "I", .fieldLink RX2 156 "FutexKernel$Task" "address" "I", .methodLink RX2 73 yX2_ownerAt, .instanceMethod yX2_ownerAt, .selects RX2 yX2_ownerAt yX2_ownerAt, .initialized RX2, .code yX2_ownerAt cX2_ownerAt 3 (some (.object "FutexKernel$Task")), .fieldLink RX2 9 "FutexKernel" "words" "[I", .methodLink RX2 186 yX2_isAddress, .static yX2_isAddress, .code yX2_isAddress cX2_isAddress 1 (some .boolean), .methodLink RX2 114 yX1_bit, .instanceMethod yX1_bit, .selects RX1 yX1_bit yX1_bit, .initialized RX1, .code yX1_bit cX1_bit 1 (some .int), .fieldLink RX1 46 "FutexKernel$Task" "number" "I"] ++ wsX20 ++ wsX10)
def wsJ6_bitCount_0f7a4 : List Cond := .code yJ6_bitCount_0f7a4 cJ6_bitCount_0f7a4 1 (some .int) :: ([.constant RJ6 265 (1431655765), .constant RJ6 266 (858993459), .constant RJ6 267 (252645135)])
def wsX2_blockedBy_r1 : List Cond := [Cond.methodLink RX2 35 yX2_taskOf, Cond.instanceMethod yX2_taskOf, Cond.selects RX2 yX2_taskOf yX2_taskOf, Cond.initialized RX2, Cond.code yX2_taskOf cX2_taskOf 2 (some (.object "FutexKernel$Task")), Cond.classLink RX2 105 "java/lang/IndexOutOfBoundsException", Cond.initialized "java/lang/IndexOutOfBoundsException", Cond.fieldLink RX2 15 "FutexKernel" "tasks" "[LFutexKernel$Task;", Cond.methodLink RX2 114 yX1_bit, Cond.instanceMethod yX1_bit, Cond.selects RX1 yX1_bit yX1_bit, Cond.initialized RX1, Cond.code yX1_bit cX1_bit 1 (some .int), Cond.fieldLink RX1 46 "FutexKernel$Task" "number" "I", Cond.methodLink RX2 118 yX2_blockedByOneOf, Cond.instanceMethod yX2_blockedByOneOf, Cond.selects RX2 yX2_blockedByOneOf yX2_blockedByOneOf, Cond.code yX2_blockedByOneOf cX2_blockedByOneOf 8 (some .int), Cond.fieldLink RX2 76 "FutexKernel$Task" "state" "I", Cond.fieldLink RX2 156 "FutexKernel$Task" "address" "I", Cond.methodLink RX2 73 yX2_ownerAt, Cond.instanceMethod yX2_ownerAt, Cond.selects RX2 yX2_ownerAt yX2_ownerAt, Cond.code yX2_ownerAt cX2_ownerAt 3 (some (.object "FutexKernel$Task"))]
def wsX2_blockedBy_r2 : List Cond := [Cond.fieldLink RX2 9 "FutexKernel" "words" "[I", Cond.methodLink RX2 186 yX2_isAddress, Cond.static yX2_isAddress, Cond.code yX2_isAddress cX2_isAddress 1 (some .boolean), Cond.methodLink RX2 121 yJ6_bitCount_0f7a4, Cond.static yJ6_bitCount_0f7a4, Cond.initialized RJ6, Cond.code yJ6_bitCount_0f7a4 cJ6_bitCount_0f7a4 1 (some .int), Cond.constant RJ6 265 (1431655765), Cond.constant RJ6 266 (858993459), Cond.constant RJ6 267 (252645135)]
def wsX2_blockedBy : List Cond := .code yX2_blockedBy cX2_blockedBy 4 (some .int) :: ((wsX2_blockedBy_r1 ++ wsX2_blockedBy_r2) ++ wsX20 ++ wsX10 ++ (vx_atS RX2 109 "java/lang/IndexOutOfBoundsException" ["java/lang/RuntimeException", "java/lang/Exception"]).filter goodWord)
def wsX2_interrupt_r1 : List Cond := [Cond.classLink RX2 84 "java/lang/IllegalStateException", Cond.initialized "java/lang/IllegalStateException", Cond.methodLink RX2 35 yX2_taskOf, Cond.instanceMethod yX2_taskOf, Cond.selects RX2 yX2_taskOf yX2_taskOf, Cond.initialized RX2, Cond.code yX2_taskOf cX2_taskOf 2 (some (.object "FutexKernel$Task")), Cond.classLink RX2 105 "java/lang/IndexOutOfBoundsException", Cond.initialized "java/lang/IndexOutOfBoundsException", Cond.fieldLink RX2 15 "FutexKernel" "tasks" "[LFutexKernel$Task;", Cond.methodLink RX2 126 yX1_isQueued, Cond.instanceMethod yX1_isQueued, Cond.selects RX1 yX1_isQueued yX1_isQueued, Cond.initialized RX1, Cond.code yX1_isQueued cX1_isQueued 1 (some .boolean), Cond.fieldLink RX1 25 "FutexKernel$Task" "address" "I", Cond.methodLink RX2 132 yX2_endWait, Cond.instanceMethod yX2_endWait, Cond.selects RX2 yX2_endWait yX2_endWait, Cond.code yX2_endWait cX2_endWait 3 none, Cond.fieldLink RX2 150 "FutexKernel$Task" "result" "I", Cond.fieldLink RX2 23 "FutexKernel" "endedWaits" "I", Cond.fieldLink RX2 153 "FutexKernel$Task" "serial" "I", Cond.methodLink RX2 139 yX2_leaveQueue]
def wsX2_interrupt_r2 : List Cond := [Cond.instanceMethod yX2_leaveQueue, Cond.selects RX2 yX2_leaveQueue yX2_leaveQueue, Cond.code yX2_leaveQueue cX2_leaveQueue 4 none, Cond.fieldLink RX2 156 "FutexKernel$Task" "address" "I", Cond.fieldLink RX2 76 "FutexKernel$Task" "state" "I", Cond.fieldLink RX2 166 "FutexKernel$Task" "deadline" "I", Cond.fieldLink RX2 9 "FutexKernel" "words" "[I", Cond.constant RX2 218 (2147483647), Cond.methodLink RX2 186 yX2_isAddress, Cond.static yX2_isAddress, Cond.code yX2_isAddress cX2_isAddress 1 (some .boolean), Cond.methodLink RX2 215 yX2_firstLockingAt, Cond.instanceMethod yX2_firstLockingAt, Cond.selects RX2 yX2_firstLockingAt yX2_firstLockingAt, Cond.code yX2_firstLockingAt cX2_firstLockingAt 2 (some (.object "FutexKernel$Task")), Cond.methodLink RX2 208 yX2_firstAt, Cond.instanceMethod yX2_firstAt, Cond.selects RX2 yX2_firstAt yX2_firstAt, Cond.code yX2_firstAt cX2_firstAt 10 (some (.object "FutexKernel$Task")), Cond.fieldLink RX2 205 "FutexKernel$Task" "mask" "I", Cond.methodLink RX2 201 yX1_isAheadOf, Cond.instanceMethod yX1_isAheadOf, Cond.selects RX1 yX1_isAheadOf yX1_isAheadOf, Cond.code yX1_isAheadOf cX1_isAheadOf 2 (some .boolean)]
def wsX2_interrupt_r3 : List Cond := [Cond.fieldLink RX1 22 "FutexKernel$Task" "priority" "I", Cond.fieldLink RX1 37 "FutexKernel$Task" "joined" "I"]
def wsX2_interrupt : List Cond := .code yX2_interrupt cX2_interrupt 3 none :: ((wsX2_interrupt_r1 ++ (wsX2_interrupt_r2 ++ wsX2_interrupt_r3)) ++ wsX20 ++ wsX10 ++ (vx_atS RX2 88 "java/lang/IllegalStateException" ["java/lang/RuntimeException", "java/lang/Exception"]).filter goodWord ++ (vx_atS RX2 109 "java/lang/IndexOutOfBoundsException" ["java/lang/RuntimeException", "java/lang/Exception"]).filter goodWord)
def wsX2_requireAlive : List Cond := .code yX2_requireAlive cX2_requireAlive 1 none :: ([.classLink RX2 84 "java/lang/IllegalStateException", .initialized "java/lang/IllegalStateException", .fieldLink RX2 76 "FutexKernel$Task" "state" "I"] ++ wsX10 ++ (vx_atS RX2 88 "java/lang/IllegalStateException" ["java/lang/RuntimeException", "java/lang/Exception"]).filter goodWord)
def wsX2_exit_r1 : List Cond := [Cond.fieldLink RX2 76 "FutexKernel$Task" "state" "I", Cond.fieldLink RX2 89 "FutexKernel$Task" "held" "LFutexKernel$LockList;", Cond.fieldLink RX2 102 "FutexKernel$LockList" "size" "I", Cond.methodLink RX2 35 yX2_taskOf, Cond.instanceMethod yX2_taskOf, Cond.selects RX2 yX2_taskOf yX2_taskOf, Cond.initialized RX2, Cond.code yX2_taskOf cX2_taskOf 2 (some (.object "FutexKernel$Task")), Cond.classLink RX2 105 "java/lang/IndexOutOfBoundsException", Cond.initialized "java/lang/IndexOutOfBoundsException", Cond.fieldLink RX2 15 "FutexKernel" "tasks" "[LFutexKernel$Task;", Cond.methodLink RX2 136 yX2_requireAlive, Cond.static yX2_requireAlive, Cond.code yX2_requireAlive cX2_requireAlive 1 none, Cond.classLink RX2 84 "java/lang/IllegalStateException", Cond.initialized "java/lang/IllegalStateException", Cond.methodLink RX2 126 yX1_isQueued, Cond.instanceMethod yX1_isQueued, Cond.selects RX1 yX1_isQueued yX1_isQueued, Cond.initialized RX1, Cond.code yX1_isQueued cX1_isQueued 1 (some .boolean), Cond.fieldLink RX1 25 "FutexKernel$Task" "address" "I", Cond.methodLink RX2 139 yX2_leaveQueue, Cond.instanceMethod yX2_leaveQueue]
def wsX2_exit_r2 : List Cond := [Cond.selects RX2 yX2_leaveQueue yX2_leaveQueue, Cond.code yX2_leaveQueue cX2_leaveQueue 4 none, Cond.fieldLink RX2 156 "FutexKernel$Task" "address" "I", Cond.fieldLink RX2 166 "FutexKernel$Task" "deadline" "I", Cond.fieldLink RX2 9 "FutexKernel" "words" "[I", Cond.constant RX2 218 (2147483647), Cond.methodLink RX2 186 yX2_isAddress, Cond.static yX2_isAddress, Cond.code yX2_isAddress cX2_isAddress 1 (some .boolean), Cond.methodLink RX2 215 yX2_firstLockingAt, Cond.instanceMethod yX2_firstLockingAt, Cond.selects RX2 yX2_firstLockingAt yX2_firstLockingAt, Cond.code yX2_firstLockingAt cX2_firstLockingAt 2 (some (.object "FutexKernel$Task")), Cond.methodLink RX2 208 yX2_firstAt, Cond.instanceMethod yX2_firstAt, Cond.selects RX2 yX2_firstAt yX2_firstAt, Cond.code yX2_firstAt cX2_firstAt 10 (some (.object "FutexKernel$Task")), Cond.fieldLink RX2 205 "FutexKernel$Task" "mask" "I", Cond.methodLink RX2 201 yX1_isAheadOf, Cond.instanceMethod yX1_isAheadOf, Cond.selects RX1 yX1_isAheadOf yX1_isAheadOf, Cond.code yX1_isAheadOf cX1_isAheadOf 2 (some .boolean), Cond.fieldLink RX1 22 "FutexKernel$Task" "priority" "I", Cond.fieldLink RX1 37 "FutexKernel$Task" "joined" "I"]
def wsX2_exit_r3 : List Cond := [Cond.methodLink RX2 110 yX0_addressAt, Cond.instanceMethod yX0_addressAt, Cond.selects RX0 yX0_addressAt yX0_addressAt, Cond.initialized RX0, Cond.code yX0_addressAt cX0_addressAt 2 (some .int), Cond.fieldLink RX0 15 "FutexKernel$LockList" "size" "I", Cond.fieldLink RX0 9 "FutexKernel$LockList" "addresses" "[I", Cond.methodLink RX2 73 yX2_ownerAt, Cond.instanceMethod yX2_ownerAt, Cond.selects RX2 yX2_ownerAt yX2_ownerAt, Cond.code yX2_ownerAt cX2_ownerAt 3 (some (.object "FutexKernel$Task")), Cond.methodLink RX2 98 yX2_passOn, Cond.instanceMethod yX2_passOn, Cond.selects RX2 yX2_passOn yX2_passOn, Cond.code yX2_passOn cX2_passOn 5 (some .int), Cond.constant RX2 68 (1073741824), Cond.fieldLink RX2 173 "FutexKernel$Task" "number" "I", Cond.methodLink RX2 132 yX2_endWait, Cond.instanceMethod yX2_endWait, Cond.selects RX2 yX2_endWait yX2_endWait, Cond.code yX2_endWait cX2_endWait 3 none, Cond.fieldLink RX2 150 "FutexKernel$Task" "result" "I", Cond.fieldLink RX2 23 "FutexKernel" "endedWaits" "I", Cond.fieldLink RX2 153 "FutexKernel$Task" "serial" "I"]
def wsX2_exit_r4 : List Cond := [Cond.methodLink RX2 69 yX2_giveLock, Cond.instanceMethod yX2_giveLock, Cond.selects RX2 yX2_giveLock yX2_giveLock, Cond.code yX2_giveLock cX2_giveLock 5 none, Cond.constant RX2 83 (-2147483648), Cond.methodLink RX2 222 yX0_add, Cond.instanceMethod yX0_add, Cond.selects RX0 yX0_add yX0_add, Cond.code yX0_add cX0_add 2 none, Cond.methodLink RX0 19 yX0_placeOf, Cond.instanceMethod yX0_placeOf, Cond.selects RX0 yX0_placeOf yX0_placeOf, Cond.code yX0_placeOf cX0_placeOf 3 (some .int), Cond.methodLink RX2 142 yX0_clear, Cond.instanceMethod yX0_clear, Cond.selects RX0 yX0_clear yX0_clear, Cond.code yX0_clear cX0_clear 1 none]
def wsX2_exit : List Cond := .code yX2_exit cX2_exit 7 (some .int) :: ((wsX2_exit_r1 ++ (wsX2_exit_r2 ++ (wsX2_exit_r3 ++ wsX2_exit_r4))) ++ wsX10 ++ wsX00 ++ wsX20 ++ (vx_atS RX2 109 "java/lang/IndexOutOfBoundsException" ["java/lang/RuntimeException", "java/lang/Exception"]).filter goodWord ++ (vx_atS RX2 88 "java/lang/IllegalStateException" ["java/lang/RuntimeException", "java/lang/Exception"]).filter goodWord)
def wsX2_start : List Cond := .code yX2_start cX2_start 3 none :: ([.classLink RX2 84 "java/lang/IllegalStateException", .initialized "java/lang/IllegalStateException", .fieldLink RX2 76 "FutexKernel$Task" "state" "I", .fieldLink RX2 147 "FutexKernel$Task" "priority" "I", .fieldLink RX2 150 "FutexKernel$Task" "result" "I", .fieldLink RX2 153 "FutexKernel$Task" "serial" "I", .methodLink RX2 35 yX2_taskOf, .instanceMethod yX2_taskOf, .selects RX2 yX2_taskOf yX2_taskOf, .initialized RX2, .code yX2_taskOf cX2_taskOf 2 (some (.object "FutexKernel$Task")), .classLink RX2 105 "java/lang/IndexOutOfBoundsException", .initialized "java/lang/IndexOutOfBoundsException", .fieldLink RX2 15 "FutexKernel" "tasks" "[LFutexKernel$Task;"] ++ wsX10 ++ wsX20 ++ (vx_atS RX2 88 "java/lang/IllegalStateException" ["java/lang/RuntimeException", "java/lang/Exception"]).filter goodWord ++ (vx_atS RX2 109 "java/lang/IndexOutOfBoundsException" ["java/lang/RuntimeException", "java/lang/Exception"]).filter goodWord)
def wsX2_setPriority_r1 : List Cond := [Cond.fieldLink RX2 147 "FutexKernel$Task" "priority" "I", Cond.fieldLink RX2 156 "FutexKernel$Task" "address" "I", Cond.methodLink RX2 35 yX2_taskOf, Cond.instanceMethod yX2_taskOf, Cond.selects RX2 yX2_taskOf yX2_taskOf, Cond.initialized RX2, Cond.code yX2_taskOf cX2_taskOf 2 (some (.object "FutexKernel$Task")), Cond.classLink RX2 105 "java/lang/IndexOutOfBoundsException", Cond.initialized "java/lang/IndexOutOfBoundsException", Cond.fieldLink RX2 15 "FutexKernel" "tasks" "[LFutexKernel$Task;", Cond.methodLink RX2 46 yX2_requireBetween, Cond.static yX2_requireBetween, Cond.code yX2_requireBetween cX2_requireBetween 3 none, Cond.classLink RX2 58 "java/lang/IllegalArgumentException", Cond.initialized "java/lang/IllegalArgumentException", Cond.methodLink RX2 136 yX2_requireAlive, Cond.static yX2_requireAlive, Cond.code yX2_requireAlive cX2_requireAlive 1 none, Cond.classLink RX2 84 "java/lang/IllegalStateException", Cond.initialized "java/lang/IllegalStateException", Cond.fieldLink RX2 76 "FutexKernel$Task" "state" "I", Cond.methodLink RX2 126 yX1_isQueued, Cond.instanceMethod yX1_isQueued, Cond.selects RX1 yX1_isQueued yX1_isQueued]
def wsX2_setPriority_r2 : List Cond := [Cond.initialized RX1, Cond.code yX1_isQueued cX1_isQueued 1 (some .boolean), Cond.fieldLink RX1 25 "FutexKernel$Task" "address" "I", Cond.methodLink RX2 159 yX2_joinQueue, Cond.instanceMethod yX2_joinQueue, Cond.selects RX2 yX2_joinQueue yX2_joinQueue, Cond.code yX2_joinQueue cX2_joinQueue 3 none, Cond.fieldLink RX2 29 "FutexKernel" "joins" "I", Cond.fieldLink RX2 198 "FutexKernel$Task" "joined" "I"]
def wsX2_setPriority : List Cond := .code yX2_setPriority cX2_setPriority 5 (some .int) :: ((wsX2_setPriority_r1 ++ wsX2_setPriority_r2) ++ wsX10 ++ wsX20 ++ (vx_atS RX2 109 "java/lang/IndexOutOfBoundsException" ["java/lang/RuntimeException", "java/lang/Exception"]).filter goodWord ++ (vx_atS RX2 62 "java/lang/IllegalArgumentException" ["java/lang/RuntimeException", "java/lang/Exception"]).filter goodWord ++ (vx_atS RX2 88 "java/lang/IllegalStateException" ["java/lang/RuntimeException", "java/lang/Exception"]).filter goodWord)
def wsX2_firstToTimeOut : List Cond := .code yX2_firstToTimeOut cX2_firstToTimeOut 6 (some (.object "FutexKernel$Task")) :: ([.fieldLink RX2 15 "FutexKernel" "tasks" "[LFutexKernel$Task;", .fieldLink RX2 166 "FutexKernel$Task" "deadline" "I", .methodLink RX2 219 yX1_timesOutBefore, .instanceMethod yX1_timesOutBefore, .selects RX1 yX1_timesOutBefore yX1_timesOutBefore, .initialized RX1, .code yX1_timesOutBefore cX1_timesOutBefore 2 (some .boolean), .fieldLink RX1 31 "FutexKernel$Task" "deadline" "I", .fieldLink RX1 34 "FutexKernel$Task" "begun" "I"] ++ wsX20 ++ wsX10)
def wsX2_tick_r1 : List Cond := [Cond.fieldLink RX2 19 "FutexKernel" "time" "I", Cond.fieldLink RX2 166 "FutexKernel$Task" "deadline" "I", Cond.methodLink RX2 46 yX2_requireBetween, Cond.static yX2_requireBetween, Cond.initialized RX2, Cond.code yX2_requireBetween cX2_requireBetween 3 none, Cond.classLink RX2 58 "java/lang/IllegalArgumentException", Cond.initialized "java/lang/IllegalArgumentException", Cond.methodLink RX2 162 yX2_firstToTimeOut, Cond.instanceMethod yX2_firstToTimeOut, Cond.selects RX2 yX2_firstToTimeOut yX2_firstToTimeOut, Cond.code yX2_firstToTimeOut cX2_firstToTimeOut 6 (some (.object "FutexKernel$Task")), Cond.fieldLink RX2 15 "FutexKernel" "tasks" "[LFutexKernel$Task;", Cond.methodLink RX2 219 yX1_timesOutBefore, Cond.instanceMethod yX1_timesOutBefore, Cond.selects RX1 yX1_timesOutBefore yX1_timesOutBefore, Cond.initialized RX1, Cond.code yX1_timesOutBefore cX1_timesOutBefore 2 (some .boolean), Cond.fieldLink RX1 31 "FutexKernel$Task" "deadline" "I", Cond.fieldLink RX1 34 "FutexKernel$Task" "begun" "I", Cond.methodLink RX2 132 yX2_endWait, Cond.instanceMethod yX2_endWait, Cond.selects RX2 yX2_endWait yX2_endWait, Cond.code yX2_endWait cX2_endWait 3 none]
def wsX2_tick_r2 : List Cond := [Cond.fieldLink RX2 150 "FutexKernel$Task" "result" "I", Cond.fieldLink RX2 23 "FutexKernel" "endedWaits" "I", Cond.fieldLink RX2 153 "FutexKernel$Task" "serial" "I", Cond.methodLink RX2 139 yX2_leaveQueue, Cond.instanceMethod yX2_leaveQueue, Cond.selects RX2 yX2_leaveQueue yX2_leaveQueue, Cond.code yX2_leaveQueue cX2_leaveQueue 4 none, Cond.fieldLink RX2 156 "FutexKernel$Task" "address" "I", Cond.fieldLink RX2 76 "FutexKernel$Task" "state" "I", Cond.fieldLink RX2 9 "FutexKernel" "words" "[I", Cond.constant RX2 218 (2147483647), Cond.methodLink RX2 186 yX2_isAddress, Cond.static yX2_isAddress, Cond.code yX2_isAddress cX2_isAddress 1 (some .boolean), Cond.methodLink RX2 215 yX2_firstLockingAt, Cond.instanceMethod yX2_firstLockingAt, Cond.selects RX2 yX2_firstLockingAt yX2_firstLockingAt, Cond.code yX2_firstLockingAt cX2_firstLockingAt 2 (some (.object "FutexKernel$Task")), Cond.methodLink RX2 208 yX2_firstAt, Cond.instanceMethod yX2_firstAt, Cond.selects RX2 yX2_firstAt yX2_firstAt, Cond.code yX2_firstAt cX2_firstAt 10 (some (.object "FutexKernel$Task")), Cond.fieldLink RX2 205 "FutexKernel$Task" "mask" "I", Cond.methodLink RX2 201 yX1_isAheadOf]
def wsX2_tick_r3 : List Cond := [Cond.instanceMethod yX1_isAheadOf, Cond.selects RX1 yX1_isAheadOf yX1_isAheadOf, Cond.code yX1_isAheadOf cX1_isAheadOf 2 (some .boolean), Cond.fieldLink RX1 22 "FutexKernel$Task" "priority" "I", Cond.fieldLink RX1 37 "FutexKernel$Task" "joined" "I"]
def wsX2_tick : List Cond := .code yX2_tick cX2_tick 6 (some .int) :: ((wsX2_tick_r1 ++ (wsX2_tick_r2 ++ wsX2_tick_r3)) ++ wsX20 ++ wsX10 ++ (vx_atS RX2 62 "java/lang/IllegalArgumentException" ["java/lang/RuntimeException", "java/lang/Exception"]).filter goodWord)
def wsX2_now : List Cond := .code yX2_now cX2_now 1 (some .int) :: ([.fieldLink RX2 19 "FutexKernel" "time" "I"] ++ wsX20)
def wsX2_nextTimeout : List Cond := .code yX2_nextTimeout cX2_nextTimeout 2 (some .int) :: ([.fieldLink RX2 166 "FutexKernel$Task" "deadline" "I", .fieldLink RX2 19 "FutexKernel" "time" "I", .methodLink RX2 162 yX2_firstToTimeOut, .instanceMethod yX2_firstToTimeOut, .selects RX2 yX2_firstToTimeOut yX2_firstToTimeOut, .initialized RX2, .code yX2_firstToTimeOut cX2_firstToTimeOut 6 (some (.object "FutexKernel$Task")), .fieldLink RX2 15 "FutexKernel" "tasks" "[LFutexKernel$Task;", .methodLink RX2 219 yX1_timesOutBefore, .instanceMethod yX1_timesOutBefore, .selects RX1 yX1_timesOutBefore yX1_timesOutBefore, .initialized RX1, .code yX1_timesOutBefore cX1_timesOutBefore 2 (some .boolean), .fieldLink RX1 31 "FutexKernel$Task" "deadline" "I", .fieldLink RX1 34 "FutexKernel$Task" "begun" "I"] ++ wsX10 ++ wsX20)
def wsX2_stateOf : List Cond := .code yX2_stateOf cX2_stateOf 2 (some .int) :: ([.fieldLink RX2 76 "FutexKernel$Task" "state" "I", .methodLink RX2 35 yX2_taskOf, .instanceMethod yX2_taskOf, .selects RX2 yX2_taskOf yX2_taskOf, .initialized RX2, .code yX2_taskOf cX2_taskOf 2 (some (.object "FutexKernel$Task")), .classLink RX2 105 "java/lang/IndexOutOfBoundsException", .initialized "java/lang/IndexOutOfBoundsException", .fieldLink RX2 15 "FutexKernel" "tasks" "[LFutexKernel$Task;"] ++ wsX10 ++ wsX20 ++ (vx_atS RX2 109 "java/lang/IndexOutOfBoundsException" ["java/lang/RuntimeException", "java/lang/Exception"]).filter goodWord)
def wsX2_addressOf : List Cond := .code yX2_addressOf cX2_addressOf 2 (some .int) :: ([.fieldLink RX2 156 "FutexKernel$Task" "address" "I", .methodLink RX2 35 yX2_taskOf, .instanceMethod yX2_taskOf, .selects RX2 yX2_taskOf yX2_taskOf, .initialized RX2, .code yX2_taskOf cX2_taskOf 2 (some (.object "FutexKernel$Task")), .classLink RX2 105 "java/lang/IndexOutOfBoundsException", .initialized "java/lang/IndexOutOfBoundsException", .fieldLink RX2 15 "FutexKernel" "tasks" "[LFutexKernel$Task;"] ++ wsX10 ++ wsX20 ++ (vx_atS RX2 109 "java/lang/IndexOutOfBoundsException" ["java/lang/RuntimeException", "java/lang/Exception"]).filter goodWord)
def wsX2_resultOf : List Cond := .code yX2_resultOf cX2_resultOf 2 (some .int) :: ([.fieldLink RX2 150 "FutexKernel$Task" "result" "I", .methodLink RX2 35 yX2_taskOf, .instanceMethod yX2_taskOf, .selects RX2 yX2_taskOf yX2_taskOf, .initialized RX2, .code yX2_taskOf cX2_taskOf 2 (some (.object "FutexKernel$Task")), .classLink RX2 105 "java/lang/IndexOutOfBoundsException", .initialized "java/lang/IndexOutOfBoundsException", .fieldLink RX2 15 "FutexKernel" "tasks" "[LFutexKernel$Task;"] ++ wsX10 ++ wsX20 ++ (vx_atS RX2 109 "java/lang/IndexOutOfBoundsException" ["java/lang/RuntimeException", "java/lang/Exception"]).filter goodWord)
def wsX2_serialOf : List Cond := .code yX2_serialOf cX2_serialOf 2 (some .int) :: ([.fieldLink RX2 153 "FutexKernel$Task" "serial" "I", .methodLink RX2 35 yX2_taskOf, .instanceMethod yX2_taskOf, .selects RX2 yX2_taskOf yX2_taskOf, .initialized RX2, .code yX2_taskOf cX2_taskOf 2 (some (.object "FutexKernel$Task")), .classLink RX2 105 "java/lang/IndexOutOfBoundsException", .initialized "java/lang/IndexOutOfBoundsException", .fieldLink RX2 15 "FutexKernel" "tasks" "[LFutexKernel$Task;"] ++ wsX10 ++ wsX20 ++ (vx_atS RX2 109 "java/lang/IndexOutOfBoundsException" ["java/lang/RuntimeException", "java/lang/Exception"]).filter goodWord)
def wsX2_waiters : List Cond := .code yX2_waiters cX2_waiters 7 (some .int) :: ([.fieldLink RX2 15 "FutexKernel" "tasks" "[LFutexKernel$Task;", .fieldLink RX2 156 "FutexKernel$Task" "address" "I", .methodLink RX2 39 yX2_requireAddress, .static yX2_requireAddress, .initialized RX2, .code yX2_requireAddress cX2_requireAddress 1 none, .classLink RX2 105 "java/lang/IndexOutOfBoundsException", .initialized "java/lang/IndexOutOfBoundsException", .methodLink RX2 186 yX2_isAddress, .static yX2_isAddress, .code yX2_isAddress cX2_isAddress 1 (some .boolean)] ++ wsX20 ++ wsX10 ++ (vx_atS RX2 109 "java/lang/IndexOutOfBoundsException" ["java/lang/RuntimeException", "java/lang/Exception"]).filter goodWord)
def wsX2_countAheadAtAddress : List Cond := .code yX2_countAheadAtAddress cX2_countAheadAtAddress 7 (some .int) :: ([.fieldLink RX2 15 "FutexKernel" "tasks" "[LFutexKernel$Task;", .fieldLink RX2 156 "FutexKernel$Task" "address" "I", .methodLink RX2 201 yX1_isAheadOf, .instanceMethod yX1_isAheadOf, .selects RX1 yX1_isAheadOf yX1_isAheadOf, .initialized RX1, .code yX1_isAheadOf cX1_isAheadOf 2 (some .boolean), .fieldLink RX1 22 "FutexKernel$Task" "priority" "I", .fieldLink RX1 37 "FutexKernel$Task" "joined" "I"] ++ wsX20 ++ wsX10)
def wsX2_waiterAt : List Cond := .code yX2_waiterAt cX2_waiterAt 7 (some .int) :: ([.classLink RX2 105 "java/lang/IndexOutOfBoundsException", .initialized "java/lang/IndexOutOfBoundsException", .fieldLink RX2 15 "FutexKernel" "tasks" "[LFutexKernel$Task;", .fieldLink RX2 156 "FutexKernel$Task" "address" "I", .fieldLink RX2 173 "FutexKernel$Task" "number" "I", .methodLink RX2 39 yX2_requireAddress, .static yX2_requireAddress, .initialized RX2, .code yX2_requireAddress cX2_requireAddress 1 none, .methodLink RX2 186 yX2_isAddress, .static yX2_isAddress, .code yX2_isAddress cX2_isAddress 1 (some .boolean), .methodLink RX2 169 yX2_countAheadAtAddress, .instanceMethod yX2_countAheadAtAddress, .selects RX2 yX2_countAheadAtAddress yX2_countAheadAtAddress, .code yX2_countAheadAtAddress cX2_countAheadAtAddress 7 (some .int), .methodLink RX2 201 yX1_isAheadOf, .instanceMethod yX1_isAheadOf, .selects RX1 yX1_isAheadOf yX1_isAheadOf, .initialized RX1, .code yX1_isAheadOf cX1_isAheadOf 2 (some .boolean), .fieldLink RX1 22 "FutexKernel$Task" "priority" "I", .fieldLink RX1 37 "FutexKernel$Task" "joined" "I"] ++ wsX20 ++ wsX10 ++ (vx_atS RX2 109 "java/lang/IndexOutOfBoundsException" ["java/lang/RuntimeException", "java/lang/Exception"]).filter goodWord)
def wsX2_bucketOf : List Cond := .code yX2_bucketOf cX2_bucketOf 1 (some .int) :: ([])
def wsX2_countAheadInBucket : List Cond := .code yX2_countAheadInBucket cX2_countAheadInBucket 7 (some .int) :: ([.fieldLink RX2 15 "FutexKernel" "tasks" "[LFutexKernel$Task;", .fieldLink RX2 156 "FutexKernel$Task" "address" "I", .methodLink RX2 126 yX1_isQueued, .instanceMethod yX1_isQueued, .selects RX1 yX1_isQueued yX1_isQueued, .initialized RX1, .code yX1_isQueued cX1_isQueued 1 (some .boolean), .fieldLink RX1 25 "FutexKernel$Task" "address" "I", .methodLink RX2 178 yX2_bucketOf, .static yX2_bucketOf, .initialized RX2, .code yX2_bucketOf cX2_bucketOf 1 (some .int), .methodLink RX2 201 yX1_isAheadOf, .instanceMethod yX1_isAheadOf, .selects RX1 yX1_isAheadOf yX1_isAheadOf, .code yX1_isAheadOf cX1_isAheadOf 2 (some .boolean), .fieldLink RX1 22 "FutexKernel$Task" "priority" "I", .fieldLink RX1 37 "FutexKernel$Task" "joined" "I"] ++ wsX20 ++ wsX10)
def wsX2_queueAt_r1 : List Cond := [Cond.classLink RX2 105 "java/lang/IndexOutOfBoundsException", Cond.initialized "java/lang/IndexOutOfBoundsException", Cond.fieldLink RX2 15 "FutexKernel" "tasks" "[LFutexKernel$Task;", Cond.fieldLink RX2 156 "FutexKernel$Task" "address" "I", Cond.fieldLink RX2 173 "FutexKernel$Task" "number" "I", Cond.methodLink RX2 126 yX1_isQueued, Cond.instanceMethod yX1_isQueued, Cond.selects RX1 yX1_isQueued yX1_isQueued, Cond.initialized RX1, Cond.code yX1_isQueued cX1_isQueued 1 (some .boolean), Cond.fieldLink RX1 25 "FutexKernel$Task" "address" "I", Cond.methodLink RX2 178 yX2_bucketOf, Cond.static yX2_bucketOf, Cond.initialized RX2, Cond.code yX2_bucketOf cX2_bucketOf 1 (some .int), Cond.methodLink RX2 181 yX2_countAheadInBucket, Cond.instanceMethod yX2_countAheadInBucket, Cond.selects RX2 yX2_countAheadInBucket yX2_countAheadInBucket, Cond.code yX2_countAheadInBucket cX2_countAheadInBucket 7 (some .int), Cond.methodLink RX2 201 yX1_isAheadOf, Cond.instanceMethod yX1_isAheadOf, Cond.selects RX1 yX1_isAheadOf yX1_isAheadOf, Cond.code yX1_isAheadOf cX1_isAheadOf 2 (some .boolean), Cond.fieldLink RX1 22 "FutexKernel$Task" "priority" "I"]
def wsX2_queueAt_r2 : List Cond := [Cond.fieldLink RX1 37 "FutexKernel$Task" "joined" "I"]
def wsX2_queueAt : List Cond := .code yX2_queueAt cX2_queueAt 7 (some .int) :: ((wsX2_queueAt_r1 ++ wsX2_queueAt_r2) ++ wsX20 ++ wsX10 ++ (vx_atS RX2 109 "java/lang/IndexOutOfBoundsException" ["java/lang/RuntimeException", "java/lang/Exception"]).filter goodWord)
def wsX3_init : List Cond := .code yX3_init cX3_init 2 none :: ([.methodLink RX3 1 objectInit, .instanceMethod objectInit, .code objectInit ⟨#[0xb1]⟩ 1 none, .arrayClass .int, .fieldLink RX3 7 "FutexKernelModel" "word" "[I", .fieldLink RX3 13 "FutexKernelModel" "state" "[I", .fieldLink RX3 16 "FutexKernelModel" "priority" "[I", .fieldLink RX3 19 "FutexKernelModel" "result" "[I", .fieldLink RX3 22 "FutexKernelModel" "serial" "[I", .fieldLink RX3 25 "FutexKernelModel" "at" "[I", .fieldLink RX3 28 "FutexKernelModel" "mask" "[I", .fieldLink RX3 31 "FutexKernelModel" "deadline" "[I", .fieldLink RX3 34 "FutexKernelModel" "began" "[I", .fieldLink RX3 37 "FutexKernelModel" "joined" "[I", .fieldLink RX3 40 "FutexKernelModel" "many" "[I", .fieldLink RX3 43 "FutexKernelModel" "list" "[I"] ++ wsX30)
def wsX3_thrown : List Cond := .code yX3_thrown cX3_thrown 1 (some .int) :: ([.fieldLink RX3 46 "FutexKernelModel" "thrown" "I"] ++ wsX30)
def wsX3_fails : List Cond := .code yX3_fails cX3_fails 2 (some .int) :: ([.fieldLink RX3 46 "FutexKernelModel" "thrown" "I"] ++ wsX30)
def wsX3_asks : List Cond := .code yX3_asks cX3_asks 2 (some .boolean) :: ([.fieldLink RX3 46 "FutexKernelModel" "thrown" "I"] ++ wsX30)
def wsX3_isThread : List Cond := .code yX3_isThread cX3_isThread 1 (some .boolean) :: ([])
def wsX3_isAddress : List Cond := .code yX3_isAddress cX3_isAddress 1 (some .boolean) :: ([])
def wsX3_bucketOf : List Cond := .code yX3_bucketOf cX3_bucketOf 1 (some .int) :: ([])
def wsX3_isQueued : List Cond := .code yX3_isQueued cX3_isQueued 2 (some .boolean) :: ([.fieldLink RX3 13 "FutexKernelModel" "state" "[I"] ++ wsX30)
def wsX3_ownerOf : List Cond := .code yX3_ownerOf cX3_ownerOf 1 (some .int) :: ([])
def wsX3_key : List Cond := .code yX3_key cX3_key 2 (some .long) :: ([.fieldLink RX3 16 "FutexKernelModel" "priority" "[I", .constantLong RX3 50 (1000000000), .fieldLink RX3 37 "FutexKernelModel" "joined" "[I"] ++ wsX30)
def wsX3_first : List Cond := .code yX3_first cX3_first 7 (some .int) :: ([.fieldLink RX3 13 "FutexKernelModel" "state" "[I", .fieldLink RX3 25 "FutexKernelModel" "at" "[I", .fieldLink RX3 28 "FutexKernelModel" "mask" "[I", .methodLink RX3 52 yX3_key, .instanceMethod yX3_key, .selects RX3 yX3_key yX3_key, .initialized RX3, .code yX3_key cX3_key 2 (some .long), .fieldLink RX3 16 "FutexKernelModel" "priority" "[I", .constantLong RX3 50 (1000000000), .fieldLink RX3 37 "FutexKernelModel" "joined" "[I"] ++ wsX30)
def wsX3_isSomebodyLocking : List Cond := .code yX3_isSomebodyLocking cX3_isSomebodyLocking 2 (some .boolean) :: ([.methodLink RX3 56 yX3_first, .instanceMethod yX3_first, .selects RX3 yX3_first yX3_first, .initialized RX3, .code yX3_first cX3_first 7 (some .int), .fieldLink RX3 13 "FutexKernelModel" "state" "[I", .fieldLink RX3 25 "FutexKernelModel" "at" "[I", .fieldLink RX3 28 "FutexKernelModel" "mask" "[I", .methodLink RX3 52 yX3_key, .instanceMethod yX3_key, .selects RX3 yX3_key yX3_key, .code yX3_key cX3_key 2 (some .long), .fieldLink RX3 16 "FutexKernelModel" "priority" "[I", .constantLong RX3 50 (1000000000), .fieldLink RX3 37 "FutexKernelModel" "joined" "[I"] ++ wsX30)
def wsX3_joins : List Cond := .code yX3_joins cX3_joins 3 none :: ([.fieldLink RX3 25 "FutexKernelModel" "at" "[I", .fieldLink RX3 60 "FutexKernelModel" "joins" "I", .fieldLink RX3 37 "FutexKernelModel" "joined" "[I"] ++ wsX30)
def wsX3_leaves : List Cond := .code yX3_leaves cX3_leaves 4 none :: ([.fieldLink RX3 13 "FutexKernelModel" "state" "[I", .fieldLink RX3 25 "FutexKernelModel" "at" "[I", .fieldLink RX3 7 "FutexKernelModel" "word" "[I", .constant RX3 67 (2147483647), .methodLink RX3 63 yX3_isSomebodyLocking, .instanceMethod yX3_isSomebodyLocking, .selects RX3 yX3_isSomebodyLocking yX3_isSomebodyLocking, .initialized RX3, .code yX3_isSomebodyLocking cX3_isSomebodyLocking 2 (some .boolean), .methodLink RX3 56 yX3_first, .instanceMethod yX3_first, .selects RX3 yX3_first yX3_first, .code yX3_first cX3_first 7 (some .int), .fieldLink RX3 28 "FutexKernelModel" "mask" "[I", .methodLink RX3 52 yX3_key, .instanceMethod yX3_key, .selects RX3 yX3_key yX3_key, .code yX3_key cX3_key 2 (some .long), .fieldLink RX3 16 "FutexKernelModel" "priority" "[I", .constantLong RX3 50 (1000000000), .fieldLink RX3 37 "FutexKernelModel" "joined" "[I"] ++ wsX30)
def wsX3_ends_r1 : List Cond := [Cond.fieldLink RX3 19 "FutexKernelModel" "result" "[I", Cond.fieldLink RX3 72 "FutexKernelModel" "ends" "I", Cond.fieldLink RX3 22 "FutexKernelModel" "serial" "[I", Cond.methodLink RX3 68 yX3_leaves, Cond.instanceMethod yX3_leaves, Cond.selects RX3 yX3_leaves yX3_leaves, Cond.initialized RX3, Cond.code yX3_leaves cX3_leaves 4 none, Cond.fieldLink RX3 13 "FutexKernelModel" "state" "[I", Cond.fieldLink RX3 25 "FutexKernelModel" "at" "[I", Cond.fieldLink RX3 7 "FutexKernelModel" "word" "[I", Cond.constant RX3 67 (2147483647), Cond.methodLink RX3 63 yX3_isSomebodyLocking, Cond.instanceMethod yX3_isSomebodyLocking, Cond.selects RX3 yX3_isSomebodyLocking yX3_isSomebodyLocking, Cond.code yX3_isSomebodyLocking cX3_isSomebodyLocking 2 (some .boolean), Cond.methodLink RX3 56 yX3_first, Cond.instanceMethod yX3_first, Cond.selects RX3 yX3_first yX3_first, Cond.code yX3_first cX3_first 7 (some .int), Cond.fieldLink RX3 28 "FutexKernelModel" "mask" "[I", Cond.methodLink RX3 52 yX3_key, Cond.instanceMethod yX3_key, Cond.selects RX3 yX3_key yX3_key]
def wsX3_ends_r2 : List Cond := [Cond.code yX3_key cX3_key 2 (some .long), Cond.fieldLink RX3 16 "FutexKernelModel" "priority" "[I", Cond.constantLong RX3 50 (1000000000), Cond.fieldLink RX3 37 "FutexKernelModel" "joined" "[I"]
def wsX3_ends : List Cond := .code yX3_ends cX3_ends 3 none :: ((wsX3_ends_r1 ++ wsX3_ends_r2) ++ wsX30)
def wsX3_waits : List Cond := .code yX3_waits cX3_waits 6 none :: ([.fieldLink RX3 13 "FutexKernelModel" "state" "[I", .fieldLink RX3 28 "FutexKernelModel" "mask" "[I", .fieldLink RX3 31 "FutexKernelModel" "deadline" "[I", .fieldLink RX3 75 "FutexKernelModel" "time" "I", .fieldLink RX3 78 "FutexKernelModel" "begins" "I", .fieldLink RX3 34 "FutexKernelModel" "began" "[I", .methodLink RX3 81 yX3_joins, .instanceMethod yX3_joins, .selects RX3 yX3_joins yX3_joins, .initialized RX3, .code yX3_joins cX3_joins 3 none, .fieldLink RX3 25 "FutexKernelModel" "at" "[I", .fieldLink RX3 60 "FutexKernelModel" "joins" "I", .fieldLink RX3 37 "FutexKernelModel" "joined" "[I"] ++ wsX30)
def wsX3_asksRunning : List Cond := .code yX3_asksRunning cX3_asksRunning 5 (some .boolean) :: ([.fieldLink RX3 13 "FutexKernelModel" "state" "[I", .fieldLink RX3 46 "FutexKernelModel" "thrown" "I", .methodLink RX3 83 yX3_isThread, .static yX3_isThread, .initialized RX3, .code yX3_isThread cX3_isThread 1 (some .boolean), .methodLink RX3 86 yX3_isAddress, .static yX3_isAddress, .code yX3_isAddress cX3_isAddress 1 (some .boolean)] ++ wsX30)
def wsX3_store : List Cond := .code yX3_store cX3_store 5 (some .int) :: ([.fieldLink RX3 7 "FutexKernelModel" "word" "[I", .methodLink RX3 89 yX3_asksRunning, .instanceMethod yX3_asksRunning, .selects RX3 yX3_asksRunning yX3_asksRunning, .initialized RX3, .code yX3_asksRunning cX3_asksRunning 5 (some .boolean), .fieldLink RX3 13 "FutexKernelModel" "state" "[I", .fieldLink RX3 46 "FutexKernelModel" "thrown" "I", .methodLink RX3 83 yX3_isThread, .static yX3_isThread, .code yX3_isThread cX3_isThread 1 (some .boolean), .methodLink RX3 86 yX3_isAddress, .static yX3_isAddress, .code yX3_isAddress cX3_isAddress 1 (some .boolean)] ++ wsX30)
def wsX3_compareAndSet : List Cond := .code yX3_compareAndSet cX3_compareAndSet 5 (some .boolean) :: ([.fieldLink RX3 7 "FutexKernelModel" "word" "[I", .methodLink RX3 89 yX3_asksRunning, .instanceMethod yX3_asksRunning, .selects RX3 yX3_asksRunning yX3_asksRunning, .initialized RX3, .code yX3_asksRunning cX3_asksRunning 5 (some .boolean), .fieldLink RX3 13 "FutexKernelModel" "state" "[I", .fieldLink RX3 46 "FutexKernelModel" "thrown" "I", .methodLink RX3 83 yX3_isThread, .static yX3_isThread, .code yX3_isThread cX3_isThread 1 (some .boolean), .methodLink RX3 86 yX3_isAddress, .static yX3_isAddress, .code yX3_isAddress cX3_isAddress 1 (some .boolean)] ++ wsX30)
def wsX3_fetchAdd : List Cond := .code yX3_fetchAdd cX3_fetchAdd 5 (some .int) :: ([.fieldLink RX3 7 "FutexKernelModel" "word" "[I", .methodLink RX3 89 yX3_asksRunning, .instanceMethod yX3_asksRunning, .selects RX3 yX3_asksRunning yX3_asksRunning, .initialized RX3, .code yX3_asksRunning cX3_asksRunning 5 (some .boolean), .fieldLink RX3 13 "FutexKernelModel" "state" "[I", .fieldLink RX3 46 "FutexKernelModel" "thrown" "I", .methodLink RX3 83 yX3_isThread, .static yX3_isThread, .code yX3_isThread cX3_isThread 1 (some .boolean), .methodLink RX3 86 yX3_isAddress, .static yX3_isAddress, .code yX3_isAddress cX3_isAddress 1 (some .boolean)] ++ wsX30)
def wsX3_word : List Cond := .code yX3_word cX3_word 2 (some .int) :: ([.fieldLink RX3 7 "FutexKernelModel" "word" "[I", .methodLink RX3 86 yX3_isAddress, .static yX3_isAddress, .initialized RX3, .code yX3_isAddress cX3_isAddress 1 (some .boolean), .methodLink RX3 93 yX3_asks, .instanceMethod yX3_asks, .selects RX3 yX3_asks yX3_asks, .code yX3_asks cX3_asks 2 (some .boolean), .fieldLink RX3 46 "FutexKernelModel" "thrown" "I"] ++ wsX30)
def wsX3_isMask : List Cond := .code yX3_isMask cX3_isMask 1 (some .boolean) :: ([])
def wsX3_isTimeout : List Cond := .code yX3_isTimeout cX3_isTimeout 1 (some .boolean) :: ([])
def wsX3_await_r1 : List Cond := [Cond.fieldLink RX3 7 "FutexKernelModel" "word" "[I", Cond.methodLink RX3 97 yX3_isMask, Cond.static yX3_isMask, Cond.initialized RX3, Cond.code yX3_isMask cX3_isMask 1 (some .boolean), Cond.methodLink RX3 100 yX3_isTimeout, Cond.static yX3_isTimeout, Cond.code yX3_isTimeout cX3_isTimeout 1 (some .boolean), Cond.methodLink RX3 89 yX3_asksRunning, Cond.instanceMethod yX3_asksRunning, Cond.selects RX3 yX3_asksRunning yX3_asksRunning, Cond.code yX3_asksRunning cX3_asksRunning 5 (some .boolean), Cond.fieldLink RX3 13 "FutexKernelModel" "state" "[I", Cond.fieldLink RX3 46 "FutexKernelModel" "thrown" "I", Cond.methodLink RX3 83 yX3_isThread, Cond.static yX3_isThread, Cond.code yX3_isThread cX3_isThread 1 (some .boolean), Cond.methodLink RX3 86 yX3_isAddress, Cond.static yX3_isAddress, Cond.code yX3_isAddress cX3_isAddress 1 (some .boolean), Cond.methodLink RX3 103 yX3_waits, Cond.instanceMethod yX3_waits, Cond.selects RX3 yX3_waits yX3_waits, Cond.code yX3_waits cX3_waits 6 none]
def wsX3_await_r2 : List Cond := [Cond.fieldLink RX3 28 "FutexKernelModel" "mask" "[I", Cond.fieldLink RX3 31 "FutexKernelModel" "deadline" "[I", Cond.fieldLink RX3 75 "FutexKernelModel" "time" "I", Cond.fieldLink RX3 78 "FutexKernelModel" "begins" "I", Cond.fieldLink RX3 34 "FutexKernelModel" "began" "[I", Cond.methodLink RX3 81 yX3_joins, Cond.instanceMethod yX3_joins, Cond.selects RX3 yX3_joins yX3_joins, Cond.code yX3_joins cX3_joins 3 none, Cond.fieldLink RX3 25 "FutexKernelModel" "at" "[I", Cond.fieldLink RX3 60 "FutexKernelModel" "joins" "I", Cond.fieldLink RX3 37 "FutexKernelModel" "joined" "[I"]
def wsX3_await : List Cond := .code yX3_await cX3_await 6 (some .boolean) :: ((wsX3_await_r1 ++ wsX3_await_r2) ++ wsX30)
def wsX3_wakes_r1 : List Cond := [Cond.methodLink RX3 56 yX3_first, Cond.instanceMethod yX3_first, Cond.selects RX3 yX3_first yX3_first, Cond.initialized RX3, Cond.code yX3_first cX3_first 7 (some .int), Cond.fieldLink RX3 13 "FutexKernelModel" "state" "[I", Cond.fieldLink RX3 25 "FutexKernelModel" "at" "[I", Cond.fieldLink RX3 28 "FutexKernelModel" "mask" "[I", Cond.methodLink RX3 52 yX3_key, Cond.instanceMethod yX3_key, Cond.selects RX3 yX3_key yX3_key, Cond.code yX3_key cX3_key 2 (some .long), Cond.fieldLink RX3 16 "FutexKernelModel" "priority" "[I", Cond.constantLong RX3 50 (1000000000), Cond.fieldLink RX3 37 "FutexKernelModel" "joined" "[I", Cond.methodLink RX3 107 yX3_ends, Cond.instanceMethod yX3_ends, Cond.selects RX3 yX3_ends yX3_ends, Cond.code yX3_ends cX3_ends 3 none, Cond.fieldLink RX3 19 "FutexKernelModel" "result" "[I", Cond.fieldLink RX3 72 "FutexKernelModel" "ends" "I", Cond.fieldLink RX3 22 "FutexKernelModel" "serial" "[I", Cond.methodLink RX3 68 yX3_leaves, Cond.instanceMethod yX3_leaves]
def wsX3_wakes_r2 : List Cond := [Cond.selects RX3 yX3_leaves yX3_leaves, Cond.code yX3_leaves cX3_leaves 4 none, Cond.fieldLink RX3 7 "FutexKernelModel" "word" "[I", Cond.constant RX3 67 (2147483647), Cond.methodLink RX3 63 yX3_isSomebodyLocking, Cond.instanceMethod yX3_isSomebodyLocking, Cond.selects RX3 yX3_isSomebodyLocking yX3_isSomebodyLocking, Cond.code yX3_isSomebodyLocking cX3_isSomebodyLocking 2 (some .boolean)]
def wsX3_wakes : List Cond := .code yX3_wakes cX3_wakes 6 (some .int) :: ((wsX3_wakes_r1 ++ wsX3_wakes_r2) ++ wsX30)
def wsX3_wake_r1 : List Cond := [Cond.methodLink RX3 97 yX3_isMask, Cond.static yX3_isMask, Cond.initialized RX3, Cond.code yX3_isMask cX3_isMask 1 (some .boolean), Cond.methodLink RX3 89 yX3_asksRunning, Cond.instanceMethod yX3_asksRunning, Cond.selects RX3 yX3_asksRunning yX3_asksRunning, Cond.code yX3_asksRunning cX3_asksRunning 5 (some .boolean), Cond.fieldLink RX3 13 "FutexKernelModel" "state" "[I", Cond.fieldLink RX3 46 "FutexKernelModel" "thrown" "I", Cond.methodLink RX3 83 yX3_isThread, Cond.static yX3_isThread, Cond.code yX3_isThread cX3_isThread 1 (some .boolean), Cond.methodLink RX3 86 yX3_isAddress, Cond.static yX3_isAddress, Cond.code yX3_isAddress cX3_isAddress 1 (some .boolean), Cond.methodLink RX3 109 yX3_wakes, Cond.instanceMethod yX3_wakes, Cond.selects RX3 yX3_wakes yX3_wakes, Cond.code yX3_wakes cX3_wakes 6 (some .int), Cond.methodLink RX3 56 yX3_first, Cond.instanceMethod yX3_first, Cond.selects RX3 yX3_first yX3_first, Cond.code yX3_first cX3_first 7 (some .int)]
def wsX3_wake_r2 : List Cond := [Cond.fieldLink RX3 25 "FutexKernelModel" "at" "[I", Cond.fieldLink RX3 28 "FutexKernelModel" "mask" "[I", Cond.methodLink RX3 52 yX3_key, Cond.instanceMethod yX3_key, Cond.selects RX3 yX3_key yX3_key, Cond.code yX3_key cX3_key 2 (some .long), Cond.fieldLink RX3 16 "FutexKernelModel" "priority" "[I", Cond.constantLong RX3 50 (1000000000), Cond.fieldLink RX3 37 "FutexKernelModel" "joined" "[I", Cond.methodLink RX3 107 yX3_ends, Cond.instanceMethod yX3_ends, Cond.selects RX3 yX3_ends yX3_ends, Cond.code yX3_ends cX3_ends 3 none, Cond.fieldLink RX3 19 "FutexKernelModel" "result" "[I", Cond.fieldLink RX3 72 "FutexKernelModel" "ends" "I", Cond.fieldLink RX3 22 "FutexKernelModel" "serial" "[I", Cond.methodLink RX3 68 yX3_leaves, Cond.instanceMethod yX3_leaves, Cond.selects RX3 yX3_leaves yX3_leaves, Cond.code yX3_leaves cX3_leaves 4 none, Cond.fieldLink RX3 7 "FutexKernelModel" "word" "[I", Cond.constant RX3 67 (2147483647), Cond.methodLink RX3 63 yX3_isSomebodyLocking, Cond.instanceMethod yX3_isSomebodyLocking]
def wsX3_wake_r3 : List Cond := [Cond.selects RX3 yX3_isSomebodyLocking yX3_isSomebodyLocking, Cond.code yX3_isSomebodyLocking cX3_isSomebodyLocking 2 (some .boolean)]
def wsX3_wake : List Cond := .code yX3_wake cX3_wake 5 (some .int) :: ((wsX3_wake_r1 ++ (wsX3_wake_r2 ++ wsX3_wake_r3)) ++ wsX30)
def wsX3_requeue_r1 : List Cond := [Cond.fieldLink RX3 13 "FutexKernelModel" "state" "[I", Cond.fieldLink RX3 7 "FutexKernelModel" "word" "[I", Cond.methodLink RX3 83 yX3_isThread, Cond.static yX3_isThread, Cond.initialized RX3, Cond.code yX3_isThread cX3_isThread 1 (some .boolean), Cond.methodLink RX3 86 yX3_isAddress, Cond.static yX3_isAddress, Cond.code yX3_isAddress cX3_isAddress 1 (some .boolean), Cond.methodLink RX3 93 yX3_asks, Cond.instanceMethod yX3_asks, Cond.selects RX3 yX3_asks yX3_asks, Cond.code yX3_asks cX3_asks 2 (some .boolean), Cond.fieldLink RX3 46 "FutexKernelModel" "thrown" "I", Cond.methodLink RX3 112 yX3_fails, Cond.instanceMethod yX3_fails, Cond.selects RX3 yX3_fails yX3_fails, Cond.code yX3_fails cX3_fails 2 (some .int), Cond.methodLink RX3 109 yX3_wakes, Cond.instanceMethod yX3_wakes, Cond.selects RX3 yX3_wakes yX3_wakes, Cond.code yX3_wakes cX3_wakes 6 (some .int), Cond.methodLink RX3 56 yX3_first, Cond.instanceMethod yX3_first]
def wsX3_requeue_r2 : List Cond := [Cond.selects RX3 yX3_first yX3_first, Cond.code yX3_first cX3_first 7 (some .int), Cond.fieldLink RX3 25 "FutexKernelModel" "at" "[I", Cond.fieldLink RX3 28 "FutexKernelModel" "mask" "[I", Cond.methodLink RX3 52 yX3_key, Cond.instanceMethod yX3_key, Cond.selects RX3 yX3_key yX3_key, Cond.code yX3_key cX3_key 2 (some .long), Cond.fieldLink RX3 16 "FutexKernelModel" "priority" "[I", Cond.constantLong RX3 50 (1000000000), Cond.fieldLink RX3 37 "FutexKernelModel" "joined" "[I", Cond.methodLink RX3 107 yX3_ends, Cond.instanceMethod yX3_ends, Cond.selects RX3 yX3_ends yX3_ends, Cond.code yX3_ends cX3_ends 3 none, Cond.fieldLink RX3 19 "FutexKernelModel" "result" "[I", Cond.fieldLink RX3 72 "FutexKernelModel" "ends" "I", Cond.fieldLink RX3 22 "FutexKernelModel" "serial" "[I", Cond.methodLink RX3 68 yX3_leaves, Cond.instanceMethod yX3_leaves, Cond.selects RX3 yX3_leaves yX3_leaves, Cond.code yX3_leaves cX3_leaves 4 none, Cond.constant RX3 67 (2147483647), Cond.methodLink RX3 63 yX3_isSomebodyLocking]
def wsX3_requeue_r3 : List Cond := [Cond.instanceMethod yX3_isSomebodyLocking, Cond.selects RX3 yX3_isSomebodyLocking yX3_isSomebodyLocking, Cond.code yX3_isSomebodyLocking cX3_isSomebodyLocking 2 (some .boolean), Cond.methodLink RX3 81 yX3_joins, Cond.instanceMethod yX3_joins, Cond.selects RX3 yX3_joins yX3_joins, Cond.code yX3_joins cX3_joins 3 none, Cond.fieldLink RX3 60 "FutexKernelModel" "joins" "I"]
def wsX3_requeue : List Cond := .code yX3_requeue cX3_requeue 10 (some .int) :: ((wsX3_requeue_r1 ++ (wsX3_requeue_r2 ++ wsX3_requeue_r3)) ++ wsX30)
def wsX3_place : List Cond := .code yX3_place cX3_place 5 (some .int) :: ([.fieldLink RX3 40 "FutexKernelModel" "many" "[I", .fieldLink RX3 43 "FutexKernelModel" "list" "[I"] ++ wsX30)
def wsX3_gets : List Cond := .code yX3_gets cX3_gets 3 none :: ([.fieldLink RX3 43 "FutexKernelModel" "list" "[I", .fieldLink RX3 40 "FutexKernelModel" "many" "[I", .methodLink RX3 116 yX3_place, .instanceMethod yX3_place, .selects RX3 yX3_place yX3_place, .initialized RX3, .code yX3_place cX3_place 5 (some .int)] ++ wsX30)
def wsX3_drops : List Cond := .code yX3_drops cX3_drops 4 none :: ([.fieldLink RX3 40 "FutexKernelModel" "many" "[I", .fieldLink RX3 43 "FutexKernelModel" "list" "[I", .methodLink RX3 116 yX3_place, .instanceMethod yX3_place, .selects RX3 yX3_place yX3_place, .initialized RX3, .code yX3_place cX3_place 5 (some .int)] ++ wsX30)
def wsX3_passes_r1 : List Cond := [Cond.constant RX3 120 (1073741824), Cond.fieldLink RX3 7 "FutexKernelModel" "word" "[I", Cond.constant RX3 121 (-2147483648), Cond.methodLink RX3 56 yX3_first, Cond.instanceMethod yX3_first, Cond.selects RX3 yX3_first yX3_first, Cond.initialized RX3, Cond.code yX3_first cX3_first 7 (some .int), Cond.fieldLink RX3 13 "FutexKernelModel" "state" "[I", Cond.fieldLink RX3 25 "FutexKernelModel" "at" "[I", Cond.fieldLink RX3 28 "FutexKernelModel" "mask" "[I", Cond.methodLink RX3 52 yX3_key, Cond.instanceMethod yX3_key, Cond.selects RX3 yX3_key yX3_key, Cond.code yX3_key cX3_key 2 (some .long), Cond.fieldLink RX3 16 "FutexKernelModel" "priority" "[I", Cond.constantLong RX3 50 (1000000000), Cond.fieldLink RX3 37 "FutexKernelModel" "joined" "[I", Cond.methodLink RX3 107 yX3_ends, Cond.instanceMethod yX3_ends, Cond.selects RX3 yX3_ends yX3_ends, Cond.code yX3_ends cX3_ends 3 none, Cond.fieldLink RX3 19 "FutexKernelModel" "result" "[I", Cond.fieldLink RX3 72 "FutexKernelModel" "ends" "I"]
def wsX3_passes_r2 : List Cond := [Cond.fieldLink RX3 22 "FutexKernelModel" "serial" "[I", Cond.methodLink RX3 68 yX3_leaves, Cond.instanceMethod yX3_leaves, Cond.selects RX3 yX3_leaves yX3_leaves, Cond.code yX3_leaves cX3_leaves 4 none, Cond.constant RX3 67 (2147483647), Cond.methodLink RX3 63 yX3_isSomebodyLocking, Cond.instanceMethod yX3_isSomebodyLocking, Cond.selects RX3 yX3_isSomebodyLocking yX3_isSomebodyLocking, Cond.code yX3_isSomebodyLocking cX3_isSomebodyLocking 2 (some .boolean), Cond.methodLink RX3 122 yX3_gets, Cond.instanceMethod yX3_gets, Cond.selects RX3 yX3_gets yX3_gets, Cond.code yX3_gets cX3_gets 3 none, Cond.fieldLink RX3 43 "FutexKernelModel" "list" "[I", Cond.fieldLink RX3 40 "FutexKernelModel" "many" "[I", Cond.methodLink RX3 116 yX3_place, Cond.instanceMethod yX3_place, Cond.selects RX3 yX3_place yX3_place, Cond.code yX3_place cX3_place 5 (some .int)]
def wsX3_passes : List Cond := .code yX3_passes cX3_passes 5 (some .int) :: ((wsX3_passes_r1 ++ wsX3_passes_r2) ++ wsX30)
def wsX3_isDeadlock : List Cond := .code yX3_isDeadlock cX3_isDeadlock 6 (some .boolean) :: ([.fieldLink RX3 13 "FutexKernelModel" "state" "[I", .fieldLink RX3 7 "FutexKernelModel" "word" "[I", .fieldLink RX3 25 "FutexKernelModel" "at" "[I", .methodLink RX3 83 yX3_isThread, .static yX3_isThread, .initialized RX3, .code yX3_isThread cX3_isThread 1 (some .boolean), .methodLink RX3 125 yX3_ownerOf, .static yX3_ownerOf, .code yX3_ownerOf cX3_ownerOf 1 (some .int)] ++ wsX30)
def wsX3_lock_r1 : List Cond := [Cond.fieldLink RX3 7 "FutexKernelModel" "word" "[I", Cond.constant RX3 120 (1073741824), Cond.constant RX3 121 (-2147483648), Cond.fieldLink RX3 13 "FutexKernelModel" "state" "[I", Cond.methodLink RX3 100 yX3_isTimeout, Cond.static yX3_isTimeout, Cond.initialized RX3, Cond.code yX3_isTimeout cX3_isTimeout 1 (some .boolean), Cond.methodLink RX3 89 yX3_asksRunning, Cond.instanceMethod yX3_asksRunning, Cond.selects RX3 yX3_asksRunning yX3_asksRunning, Cond.code yX3_asksRunning cX3_asksRunning 5 (some .boolean), Cond.fieldLink RX3 46 "FutexKernelModel" "thrown" "I", Cond.methodLink RX3 83 yX3_isThread, Cond.static yX3_isThread, Cond.code yX3_isThread cX3_isThread 1 (some .boolean), Cond.methodLink RX3 86 yX3_isAddress, Cond.static yX3_isAddress, Cond.code yX3_isAddress cX3_isAddress 1 (some .boolean), Cond.methodLink RX3 125 yX3_ownerOf, Cond.static yX3_ownerOf, Cond.code yX3_ownerOf cX3_ownerOf 1 (some .int), Cond.methodLink RX3 63 yX3_isSomebodyLocking, Cond.instanceMethod yX3_isSomebodyLocking]
def wsX3_lock_r2 : List Cond := [Cond.selects RX3 yX3_isSomebodyLocking yX3_isSomebodyLocking, Cond.code yX3_isSomebodyLocking cX3_isSomebodyLocking 2 (some .boolean), Cond.methodLink RX3 56 yX3_first, Cond.instanceMethod yX3_first, Cond.selects RX3 yX3_first yX3_first, Cond.code yX3_first cX3_first 7 (some .int), Cond.fieldLink RX3 25 "FutexKernelModel" "at" "[I", Cond.fieldLink RX3 28 "FutexKernelModel" "mask" "[I", Cond.methodLink RX3 52 yX3_key, Cond.instanceMethod yX3_key, Cond.selects RX3 yX3_key yX3_key, Cond.code yX3_key cX3_key 2 (some .long), Cond.fieldLink RX3 16 "FutexKernelModel" "priority" "[I", Cond.constantLong RX3 50 (1000000000), Cond.fieldLink RX3 37 "FutexKernelModel" "joined" "[I", Cond.methodLink RX3 122 yX3_gets, Cond.instanceMethod yX3_gets, Cond.selects RX3 yX3_gets yX3_gets, Cond.code yX3_gets cX3_gets 3 none, Cond.fieldLink RX3 43 "FutexKernelModel" "list" "[I", Cond.fieldLink RX3 40 "FutexKernelModel" "many" "[I", Cond.methodLink RX3 116 yX3_place, Cond.instanceMethod yX3_place, Cond.selects RX3 yX3_place yX3_place]
def wsX3_lock_r3 : List Cond := [Cond.code yX3_place cX3_place 5 (some .int), Cond.methodLink RX3 128 yX3_isDeadlock, Cond.instanceMethod yX3_isDeadlock, Cond.selects RX3 yX3_isDeadlock yX3_isDeadlock, Cond.code yX3_isDeadlock cX3_isDeadlock 6 (some .boolean), Cond.methodLink RX3 103 yX3_waits, Cond.instanceMethod yX3_waits, Cond.selects RX3 yX3_waits yX3_waits, Cond.code yX3_waits cX3_waits 6 none, Cond.fieldLink RX3 31 "FutexKernelModel" "deadline" "[I", Cond.fieldLink RX3 75 "FutexKernelModel" "time" "I", Cond.fieldLink RX3 78 "FutexKernelModel" "begins" "I", Cond.fieldLink RX3 34 "FutexKernelModel" "began" "[I", Cond.methodLink RX3 81 yX3_joins, Cond.instanceMethod yX3_joins, Cond.selects RX3 yX3_joins yX3_joins, Cond.code yX3_joins cX3_joins 3 none, Cond.fieldLink RX3 60 "FutexKernelModel" "joins" "I"]
def wsX3_lock : List Cond := .code yX3_lock cX3_lock 6 (some .int) :: ((wsX3_lock_r1 ++ (wsX3_lock_r2 ++ wsX3_lock_r3)) ++ wsX30)
def wsX3_unlock_r1 : List Cond := [Cond.fieldLink RX3 7 "FutexKernelModel" "word" "[I", Cond.methodLink RX3 89 yX3_asksRunning, Cond.instanceMethod yX3_asksRunning, Cond.selects RX3 yX3_asksRunning yX3_asksRunning, Cond.initialized RX3, Cond.code yX3_asksRunning cX3_asksRunning 5 (some .boolean), Cond.fieldLink RX3 13 "FutexKernelModel" "state" "[I", Cond.fieldLink RX3 46 "FutexKernelModel" "thrown" "I", Cond.methodLink RX3 83 yX3_isThread, Cond.static yX3_isThread, Cond.code yX3_isThread cX3_isThread 1 (some .boolean), Cond.methodLink RX3 86 yX3_isAddress, Cond.static yX3_isAddress, Cond.code yX3_isAddress cX3_isAddress 1 (some .boolean), Cond.methodLink RX3 125 yX3_ownerOf, Cond.static yX3_ownerOf, Cond.code yX3_ownerOf cX3_ownerOf 1 (some .int), Cond.methodLink RX3 112 yX3_fails, Cond.instanceMethod yX3_fails, Cond.selects RX3 yX3_fails yX3_fails, Cond.code yX3_fails cX3_fails 2 (some .int), Cond.methodLink RX3 132 yX3_drops, Cond.instanceMethod yX3_drops, Cond.selects RX3 yX3_drops yX3_drops]
def wsX3_unlock_r2 : List Cond := [Cond.code yX3_drops cX3_drops 4 none, Cond.fieldLink RX3 40 "FutexKernelModel" "many" "[I", Cond.fieldLink RX3 43 "FutexKernelModel" "list" "[I", Cond.methodLink RX3 116 yX3_place, Cond.instanceMethod yX3_place, Cond.selects RX3 yX3_place yX3_place, Cond.code yX3_place cX3_place 5 (some .int), Cond.methodLink RX3 135 yX3_passes, Cond.instanceMethod yX3_passes, Cond.selects RX3 yX3_passes yX3_passes, Cond.code yX3_passes cX3_passes 5 (some .int), Cond.constant RX3 120 (1073741824), Cond.constant RX3 121 (-2147483648), Cond.methodLink RX3 56 yX3_first, Cond.instanceMethod yX3_first, Cond.selects RX3 yX3_first yX3_first, Cond.code yX3_first cX3_first 7 (some .int), Cond.fieldLink RX3 25 "FutexKernelModel" "at" "[I", Cond.fieldLink RX3 28 "FutexKernelModel" "mask" "[I", Cond.methodLink RX3 52 yX3_key, Cond.instanceMethod yX3_key, Cond.selects RX3 yX3_key yX3_key, Cond.code yX3_key cX3_key 2 (some .long), Cond.fieldLink RX3 16 "FutexKernelModel" "priority" "[I"]
def wsX3_unlock_r3 : List Cond := [Cond.constantLong RX3 50 (1000000000), Cond.fieldLink RX3 37 "FutexKernelModel" "joined" "[I", Cond.methodLink RX3 107 yX3_ends, Cond.instanceMethod yX3_ends, Cond.selects RX3 yX3_ends yX3_ends, Cond.code yX3_ends cX3_ends 3 none, Cond.fieldLink RX3 19 "FutexKernelModel" "result" "[I", Cond.fieldLink RX3 72 "FutexKernelModel" "ends" "I", Cond.fieldLink RX3 22 "FutexKernelModel" "serial" "[I", Cond.methodLink RX3 68 yX3_leaves, Cond.instanceMethod yX3_leaves, Cond.selects RX3 yX3_leaves yX3_leaves, Cond.code yX3_leaves cX3_leaves 4 none, Cond.constant RX3 67 (2147483647), Cond.methodLink RX3 63 yX3_isSomebodyLocking, Cond.instanceMethod yX3_isSomebodyLocking, Cond.selects RX3 yX3_isSomebodyLocking yX3_isSomebodyLocking, Cond.code yX3_isSomebodyLocking cX3_isSomebodyLocking 2 (some .boolean), Cond.methodLink RX3 122 yX3_gets, Cond.instanceMethod yX3_gets, Cond.selects RX3 yX3_gets yX3_gets, Cond.code yX3_gets cX3_gets 3 none]
def wsX3_unlock : List Cond := .code yX3_unlock cX3_unlock 3 (some .int) :: ((wsX3_unlock_r1 ++ (wsX3_unlock_r2 ++ wsX3_unlock_r3)) ++ wsX30)
def wsX3_locks : List Cond := .code yX3_locks cX3_locks 2 (some .int) :: ([.fieldLink RX3 40 "FutexKernelModel" "many" "[I", .methodLink RX3 83 yX3_isThread, .static yX3_isThread, .initialized RX3, .code yX3_isThread cX3_isThread 1 (some .boolean), .methodLink RX3 93 yX3_asks, .instanceMethod yX3_asks, .selects RX3 yX3_asks yX3_asks, .code yX3_asks cX3_asks 2 (some .boolean), .fieldLink RX3 46 "FutexKernelModel" "thrown" "I"] ++ wsX30)
def wsX3_lockAt : List Cond := .code yX3_lockAt cX3_lockAt 3 (some .int) :: ([.fieldLink RX3 40 "FutexKernelModel" "many" "[I", .fieldLink RX3 43 "FutexKernelModel" "list" "[I", .methodLink RX3 83 yX3_isThread, .static yX3_isThread, .initialized RX3, .code yX3_isThread cX3_isThread 1 (some .boolean), .methodLink RX3 93 yX3_asks, .instanceMethod yX3_asks, .selects RX3 yX3_asks yX3_asks, .code yX3_asks cX3_asks 2 (some .boolean), .fieldLink RX3 46 "FutexKernelModel" "thrown" "I"] ++ wsX30)
def wsX3_blockedBy : List Cond := .code yX3_blockedBy cX3_blockedBy 6 (some .int) :: ([.fieldLink RX3 13 "FutexKernelModel" "state" "[I", .fieldLink RX3 7 "FutexKernelModel" "word" "[I", .fieldLink RX3 25 "FutexKernelModel" "at" "[I", .methodLink RX3 83 yX3_isThread, .static yX3_isThread, .initialized RX3, .code yX3_isThread cX3_isThread 1 (some .boolean), .methodLink RX3 93 yX3_asks, .instanceMethod yX3_asks, .selects RX3 yX3_asks yX3_asks, .code yX3_asks cX3_asks 2 (some .boolean), .fieldLink RX3 46 "FutexKernelModel" "thrown" "I", .methodLink RX3 125 yX3_ownerOf, .static yX3_ownerOf, .code yX3_ownerOf cX3_ownerOf 1 (some .int)] ++ wsX30)
def wsX3_interrupt_r1 : List Cond := [Cond.fieldLink RX3 46 "FutexKernelModel" "thrown" "I", Cond.methodLink RX3 83 yX3_isThread, Cond.static yX3_isThread, Cond.initialized RX3, Cond.code yX3_isThread cX3_isThread 1 (some .boolean), Cond.methodLink RX3 93 yX3_asks, Cond.instanceMethod yX3_asks, Cond.selects RX3 yX3_asks yX3_asks, Cond.code yX3_asks cX3_asks 2 (some .boolean), Cond.methodLink RX3 139 yX3_isQueued, Cond.instanceMethod yX3_isQueued, Cond.selects RX3 yX3_isQueued yX3_isQueued, Cond.code yX3_isQueued cX3_isQueued 2 (some .boolean), Cond.fieldLink RX3 13 "FutexKernelModel" "state" "[I", Cond.methodLink RX3 107 yX3_ends, Cond.instanceMethod yX3_ends, Cond.selects RX3 yX3_ends yX3_ends, Cond.code yX3_ends cX3_ends 3 none, Cond.fieldLink RX3 19 "FutexKernelModel" "result" "[I", Cond.fieldLink RX3 72 "FutexKernelModel" "ends" "I", Cond.fieldLink RX3 22 "FutexKernelModel" "serial" "[I", Cond.methodLink RX3 68 yX3_leaves, Cond.instanceMethod yX3_leaves, Cond.selects RX3 yX3_leaves yX3_leaves]
def wsX3_interrupt_r2 : List Cond := [Cond.code yX3_leaves cX3_leaves 4 none, Cond.fieldLink RX3 25 "FutexKernelModel" "at" "[I", Cond.fieldLink RX3 7 "FutexKernelModel" "word" "[I", Cond.constant RX3 67 (2147483647), Cond.methodLink RX3 63 yX3_isSomebodyLocking, Cond.instanceMethod yX3_isSomebodyLocking, Cond.selects RX3 yX3_isSomebodyLocking yX3_isSomebodyLocking, Cond.code yX3_isSomebodyLocking cX3_isSomebodyLocking 2 (some .boolean), Cond.methodLink RX3 56 yX3_first, Cond.instanceMethod yX3_first, Cond.selects RX3 yX3_first yX3_first, Cond.code yX3_first cX3_first 7 (some .int), Cond.fieldLink RX3 28 "FutexKernelModel" "mask" "[I", Cond.methodLink RX3 52 yX3_key, Cond.instanceMethod yX3_key, Cond.selects RX3 yX3_key yX3_key, Cond.code yX3_key cX3_key 2 (some .long), Cond.fieldLink RX3 16 "FutexKernelModel" "priority" "[I", Cond.constantLong RX3 50 (1000000000), Cond.fieldLink RX3 37 "FutexKernelModel" "joined" "[I"]
def wsX3_interrupt : List Cond := .code yX3_interrupt cX3_interrupt 2 none :: ((wsX3_interrupt_r1 ++ wsX3_interrupt_r2) ++ wsX30)
def wsX3_exit_r1 : List Cond := [Cond.fieldLink RX3 13 "FutexKernelModel" "state" "[I", Cond.fieldLink RX3 40 "FutexKernelModel" "many" "[I", Cond.fieldLink RX3 43 "FutexKernelModel" "list" "[I", Cond.fieldLink RX3 7 "FutexKernelModel" "word" "[I", Cond.methodLink RX3 83 yX3_isThread, Cond.static yX3_isThread, Cond.initialized RX3, Cond.code yX3_isThread cX3_isThread 1 (some .boolean), Cond.methodLink RX3 93 yX3_asks, Cond.instanceMethod yX3_asks, Cond.selects RX3 yX3_asks yX3_asks, Cond.code yX3_asks cX3_asks 2 (some .boolean), Cond.fieldLink RX3 46 "FutexKernelModel" "thrown" "I", Cond.methodLink RX3 112 yX3_fails, Cond.instanceMethod yX3_fails, Cond.selects RX3 yX3_fails yX3_fails, Cond.code yX3_fails cX3_fails 2 (some .int), Cond.methodLink RX3 68 yX3_leaves, Cond.instanceMethod yX3_leaves, Cond.selects RX3 yX3_leaves yX3_leaves, Cond.code yX3_leaves cX3_leaves 4 none, Cond.fieldLink RX3 25 "FutexKernelModel" "at" "[I", Cond.constant RX3 67 (2147483647), Cond.methodLink RX3 63 yX3_isSomebodyLocking]
def wsX3_exit_r2 : List Cond := [Cond.instanceMethod yX3_isSomebodyLocking, Cond.selects RX3 yX3_isSomebodyLocking yX3_isSomebodyLocking, Cond.code yX3_isSomebodyLocking cX3_isSomebodyLocking 2 (some .boolean), Cond.methodLink RX3 56 yX3_first, Cond.instanceMethod yX3_first, Cond.selects RX3 yX3_first yX3_first, Cond.code yX3_first cX3_first 7 (some .int), Cond.fieldLink RX3 28 "FutexKernelModel" "mask" "[I", Cond.methodLink RX3 52 yX3_key, Cond.instanceMethod yX3_key, Cond.selects RX3 yX3_key yX3_key, Cond.code yX3_key cX3_key 2 (some .long), Cond.fieldLink RX3 16 "FutexKernelModel" "priority" "[I", Cond.constantLong RX3 50 (1000000000), Cond.fieldLink RX3 37 "FutexKernelModel" "joined" "[I", Cond.methodLink RX3 125 yX3_ownerOf, Cond.static yX3_ownerOf, Cond.code yX3_ownerOf cX3_ownerOf 1 (some .int), Cond.methodLink RX3 135 yX3_passes, Cond.instanceMethod yX3_passes, Cond.selects RX3 yX3_passes yX3_passes, Cond.code yX3_passes cX3_passes 5 (some .int), Cond.constant RX3 120 (1073741824), Cond.constant RX3 121 (-2147483648)]
def wsX3_exit_r3 : List Cond := [Cond.methodLink RX3 107 yX3_ends, Cond.instanceMethod yX3_ends, Cond.selects RX3 yX3_ends yX3_ends, Cond.code yX3_ends cX3_ends 3 none, Cond.fieldLink RX3 19 "FutexKernelModel" "result" "[I", Cond.fieldLink RX3 72 "FutexKernelModel" "ends" "I", Cond.fieldLink RX3 22 "FutexKernelModel" "serial" "[I", Cond.methodLink RX3 122 yX3_gets, Cond.instanceMethod yX3_gets, Cond.selects RX3 yX3_gets yX3_gets, Cond.code yX3_gets cX3_gets 3 none, Cond.methodLink RX3 116 yX3_place, Cond.instanceMethod yX3_place, Cond.selects RX3 yX3_place yX3_place, Cond.code yX3_place cX3_place 5 (some .int)]
def wsX3_exit : List Cond := .code yX3_exit cX3_exit 5 (some .int) :: ((wsX3_exit_r1 ++ (wsX3_exit_r2 ++ wsX3_exit_r3)) ++ wsX30)
def wsX3_start : List Cond := .code yX3_start cX3_start 2 none :: ([.fieldLink RX3 13 "FutexKernelModel" "state" "[I", .fieldLink RX3 46 "FutexKernelModel" "thrown" "I", .fieldLink RX3 16 "FutexKernelModel" "priority" "[I", .fieldLink RX3 19 "FutexKernelModel" "result" "[I", .fieldLink RX3 22 "FutexKernelModel" "serial" "[I", .methodLink RX3 83 yX3_isThread, .static yX3_isThread, .initialized RX3, .code yX3_isThread cX3_isThread 1 (some .boolean), .methodLink RX3 93 yX3_asks, .instanceMethod yX3_asks, .selects RX3 yX3_asks yX3_asks, .code yX3_asks cX3_asks 2 (some .boolean)] ++ wsX30)
def wsX3_setPriority_r1 : List Cond := [Cond.fieldLink RX3 13 "FutexKernelModel" "state" "[I", Cond.fieldLink RX3 16 "FutexKernelModel" "priority" "[I", Cond.fieldLink RX3 25 "FutexKernelModel" "at" "[I", Cond.methodLink RX3 83 yX3_isThread, Cond.static yX3_isThread, Cond.initialized RX3, Cond.code yX3_isThread cX3_isThread 1 (some .boolean), Cond.methodLink RX3 93 yX3_asks, Cond.instanceMethod yX3_asks, Cond.selects RX3 yX3_asks yX3_asks, Cond.code yX3_asks cX3_asks 2 (some .boolean), Cond.fieldLink RX3 46 "FutexKernelModel" "thrown" "I", Cond.methodLink RX3 112 yX3_fails, Cond.instanceMethod yX3_fails, Cond.selects RX3 yX3_fails yX3_fails, Cond.code yX3_fails cX3_fails 2 (some .int), Cond.methodLink RX3 139 yX3_isQueued, Cond.instanceMethod yX3_isQueued, Cond.selects RX3 yX3_isQueued yX3_isQueued, Cond.code yX3_isQueued cX3_isQueued 2 (some .boolean), Cond.methodLink RX3 81 yX3_joins, Cond.instanceMethod yX3_joins, Cond.selects RX3 yX3_joins yX3_joins, Cond.code yX3_joins cX3_joins 3 none]
def wsX3_setPriority_r2 : List Cond := [Cond.fieldLink RX3 60 "FutexKernelModel" "joins" "I", Cond.fieldLink RX3 37 "FutexKernelModel" "joined" "[I"]
def wsX3_setPriority : List Cond := .code yX3_setPriority cX3_setPriority 4 (some .int) :: ((wsX3_setPriority_r1 ++ wsX3_setPriority_r2) ++ wsX30)
def wsX3_due : List Cond := .code yX3_due cX3_due 3 (some .int) :: ([.fieldLink RX3 31 "FutexKernelModel" "deadline" "[I", .fieldLink RX3 75 "FutexKernelModel" "time" "I", .fieldLink RX3 34 "FutexKernelModel" "began" "[I", .methodLink RX3 139 yX3_isQueued, .instanceMethod yX3_isQueued, .selects RX3 yX3_isQueued yX3_isQueued, .initialized RX3, .code yX3_isQueued cX3_isQueued 2 (some .boolean), .fieldLink RX3 13 "FutexKernelModel" "state" "[I"] ++ wsX30)
def wsX3_tick_r1 : List Cond := [Cond.fieldLink RX3 75 "FutexKernelModel" "time" "I", Cond.methodLink RX3 93 yX3_asks, Cond.instanceMethod yX3_asks, Cond.selects RX3 yX3_asks yX3_asks, Cond.initialized RX3, Cond.code yX3_asks cX3_asks 2 (some .boolean), Cond.fieldLink RX3 46 "FutexKernelModel" "thrown" "I", Cond.methodLink RX3 142 yX3_due, Cond.instanceMethod yX3_due, Cond.selects RX3 yX3_due yX3_due, Cond.code yX3_due cX3_due 3 (some .int), Cond.fieldLink RX3 31 "FutexKernelModel" "deadline" "[I", Cond.fieldLink RX3 34 "FutexKernelModel" "began" "[I", Cond.methodLink RX3 139 yX3_isQueued, Cond.instanceMethod yX3_isQueued, Cond.selects RX3 yX3_isQueued yX3_isQueued, Cond.code yX3_isQueued cX3_isQueued 2 (some .boolean), Cond.fieldLink RX3 13 "FutexKernelModel" "state" "[I", Cond.methodLink RX3 107 yX3_ends, Cond.instanceMethod yX3_ends, Cond.selects RX3 yX3_ends yX3_ends, Cond.code yX3_ends cX3_ends 3 none, Cond.fieldLink RX3 19 "FutexKernelModel" "result" "[I", Cond.fieldLink RX3 72 "FutexKernelModel" "ends" "I"]
def wsX3_tick_r2 : List Cond := [Cond.fieldLink RX3 22 "FutexKernelModel" "serial" "[I", Cond.methodLink RX3 68 yX3_leaves, Cond.instanceMethod yX3_leaves, Cond.selects RX3 yX3_leaves yX3_leaves, Cond.code yX3_leaves cX3_leaves 4 none, Cond.fieldLink RX3 25 "FutexKernelModel" "at" "[I", Cond.fieldLink RX3 7 "FutexKernelModel" "word" "[I", Cond.constant RX3 67 (2147483647), Cond.methodLink RX3 63 yX3_isSomebodyLocking, Cond.instanceMethod yX3_isSomebodyLocking, Cond.selects RX3 yX3_isSomebodyLocking yX3_isSomebodyLocking, Cond.code yX3_isSomebodyLocking cX3_isSomebodyLocking 2 (some .boolean), Cond.methodLink RX3 56 yX3_first, Cond.instanceMethod yX3_first, Cond.selects RX3 yX3_first yX3_first, Cond.code yX3_first cX3_first 7 (some .int), Cond.fieldLink RX3 28 "FutexKernelModel" "mask" "[I", Cond.methodLink RX3 52 yX3_key, Cond.instanceMethod yX3_key, Cond.selects RX3 yX3_key yX3_key, Cond.code yX3_key cX3_key 2 (some .long), Cond.fieldLink RX3 16 "FutexKernelModel" "priority" "[I", Cond.constantLong RX3 50 (1000000000), Cond.fieldLink RX3 37 "FutexKernelModel" "joined" "[I"]
def wsX3_tick : List Cond := .code yX3_tick cX3_tick 5 (some .int) :: ((wsX3_tick_r1 ++ wsX3_tick_r2) ++ wsX30)
def wsX3_now : List Cond := .code yX3_now cX3_now 1 (some .int) :: ([.fieldLink RX3 46 "FutexKernelModel" "thrown" "I", .fieldLink RX3 75 "FutexKernelModel" "time" "I"] ++ wsX30)
def wsX3_nextTimeout : List Cond := .code yX3_nextTimeout cX3_nextTimeout 4 (some .int) :: ([.fieldLink RX3 46 "FutexKernelModel" "thrown" "I", .fieldLink RX3 31 "FutexKernelModel" "deadline" "[I", .fieldLink RX3 75 "FutexKernelModel" "time" "I", .methodLink RX3 139 yX3_isQueued, .instanceMethod yX3_isQueued, .selects RX3 yX3_isQueued yX3_isQueued, .initialized RX3, .code yX3_isQueued cX3_isQueued 2 (some .boolean), .fieldLink RX3 13 "FutexKernelModel" "state" "[I"] ++ wsX30)
def wsX3_stateOf : List Cond := .code yX3_stateOf cX3_stateOf 2 (some .int) :: ([.fieldLink RX3 13 "FutexKernelModel" "state" "[I", .methodLink RX3 83 yX3_isThread, .static yX3_isThread, .initialized RX3, .code yX3_isThread cX3_isThread 1 (some .boolean), .methodLink RX3 93 yX3_asks, .instanceMethod yX3_asks, .selects RX3 yX3_asks yX3_asks, .code yX3_asks cX3_asks 2 (some .boolean), .fieldLink RX3 46 "FutexKernelModel" "thrown" "I"] ++ wsX30)
def wsX3_addressOf : List Cond := .code yX3_addressOf cX3_addressOf 2 (some .int) :: ([.fieldLink RX3 25 "FutexKernelModel" "at" "[I", .methodLink RX3 83 yX3_isThread, .static yX3_isThread, .initialized RX3, .code yX3_isThread cX3_isThread 1 (some .boolean), .methodLink RX3 93 yX3_asks, .instanceMethod yX3_asks, .selects RX3 yX3_asks yX3_asks, .code yX3_asks cX3_asks 2 (some .boolean), .fieldLink RX3 46 "FutexKernelModel" "thrown" "I", .methodLink RX3 139 yX3_isQueued, .instanceMethod yX3_isQueued, .selects RX3 yX3_isQueued yX3_isQueued, .code yX3_isQueued cX3_isQueued 2 (some .boolean), .fieldLink RX3 13 "FutexKernelModel" "state" "[I"] ++ wsX30)
def wsX3_resultOf : List Cond := .code yX3_resultOf cX3_resultOf 2 (some .int) :: ([.fieldLink RX3 19 "FutexKernelModel" "result" "[I", .methodLink RX3 83 yX3_isThread, .static yX3_isThread, .initialized RX3, .code yX3_isThread cX3_isThread 1 (some .boolean), .methodLink RX3 93 yX3_asks, .instanceMethod yX3_asks, .selects RX3 yX3_asks yX3_asks, .code yX3_asks cX3_asks 2 (some .boolean), .fieldLink RX3 46 "FutexKernelModel" "thrown" "I"] ++ wsX30)
def wsX3_serialOf : List Cond := .code yX3_serialOf cX3_serialOf 2 (some .int) :: ([.fieldLink RX3 22 "FutexKernelModel" "serial" "[I", .methodLink RX3 83 yX3_isThread, .static yX3_isThread, .initialized RX3, .code yX3_isThread cX3_isThread 1 (some .boolean), .methodLink RX3 93 yX3_asks, .instanceMethod yX3_asks, .selects RX3 yX3_asks yX3_asks, .code yX3_asks cX3_asks 2 (some .boolean), .fieldLink RX3 46 "FutexKernelModel" "thrown" "I"] ++ wsX30)
def wsX3_countAt : List Cond := .code yX3_countAt cX3_countAt 4 (some .int) :: ([.fieldLink RX3 25 "FutexKernelModel" "at" "[I", .methodLink RX3 139 yX3_isQueued, .instanceMethod yX3_isQueued, .selects RX3 yX3_isQueued yX3_isQueued, .initialized RX3, .code yX3_isQueued cX3_isQueued 2 (some .boolean), .fieldLink RX3 13 "FutexKernelModel" "state" "[I"] ++ wsX30)
def wsX3_waiters : List Cond := .code yX3_waiters cX3_waiters 2 (some .int) :: ([.methodLink RX3 86 yX3_isAddress, .static yX3_isAddress, .initialized RX3, .code yX3_isAddress cX3_isAddress 1 (some .boolean), .methodLink RX3 93 yX3_asks, .instanceMethod yX3_asks, .selects RX3 yX3_asks yX3_asks, .code yX3_asks cX3_asks 2 (some .boolean), .fieldLink RX3 46 "FutexKernelModel" "thrown" "I", .methodLink RX3 146 yX3_countAt, .instanceMethod yX3_countAt, .selects RX3 yX3_countAt yX3_countAt, .code yX3_countAt cX3_countAt 4 (some .int), .fieldLink RX3 25 "FutexKernelModel" "at" "[I", .methodLink RX3 139 yX3_isQueued, .instanceMethod yX3_isQueued, .selects RX3 yX3_isQueued yX3_isQueued, .code yX3_isQueued cX3_isQueued 2 (some .boolean), .fieldLink RX3 13 "FutexKernelModel" "state" "[I"] ++ wsX30)
def wsX3_isIn : List Cond := .code yX3_isIn cX3_isIn 4 (some .boolean) :: ([.fieldLink RX3 25 "FutexKernelModel" "at" "[I", .methodLink RX3 139 yX3_isQueued, .instanceMethod yX3_isQueued, .selects RX3 yX3_isQueued yX3_isQueued, .initialized RX3, .code yX3_isQueued cX3_isQueued 2 (some .boolean), .fieldLink RX3 13 "FutexKernelModel" "state" "[I", .methodLink RX3 149 yX3_bucketOf, .static yX3_bucketOf, .code yX3_bucketOf cX3_bucketOf 1 (some .int)] ++ wsX30)
def wsX3_thread : List Cond := .code yX3_thread cX3_thread 8 (some .int) :: ([.methodLink RX3 152 yX3_isIn, .instanceMethod yX3_isIn, .selects RX3 yX3_isIn yX3_isIn, .initialized RX3, .code yX3_isIn cX3_isIn 4 (some .boolean), .fieldLink RX3 25 "FutexKernelModel" "at" "[I", .methodLink RX3 139 yX3_isQueued, .instanceMethod yX3_isQueued, .selects RX3 yX3_isQueued yX3_isQueued, .code yX3_isQueued cX3_isQueued 2 (some .boolean), .fieldLink RX3 13 "FutexKernelModel" "state" "[I", .methodLink RX3 149 yX3_bucketOf, .static yX3_bucketOf, .code yX3_bucketOf cX3_bucketOf 1 (some .int), .methodLink RX3 52 yX3_key, .instanceMethod yX3_key, .selects RX3 yX3_key yX3_key, .code yX3_key cX3_key 2 (some .long), .fieldLink RX3 16 "FutexKernelModel" "priority" "[I", .constantLong RX3 50 (1000000000), .fieldLink RX3 37 "FutexKernelModel" "joined" "[I"] ++ wsX30)
def wsX3_waiterAt_r1 : List Cond := [Cond.methodLink RX3 86 yX3_isAddress, Cond.static yX3_isAddress, Cond.initialized RX3, Cond.code yX3_isAddress cX3_isAddress 1 (some .boolean), Cond.methodLink RX3 146 yX3_countAt, Cond.instanceMethod yX3_countAt, Cond.selects RX3 yX3_countAt yX3_countAt, Cond.code yX3_countAt cX3_countAt 4 (some .int), Cond.fieldLink RX3 25 "FutexKernelModel" "at" "[I", Cond.methodLink RX3 139 yX3_isQueued, Cond.instanceMethod yX3_isQueued, Cond.selects RX3 yX3_isQueued yX3_isQueued, Cond.code yX3_isQueued cX3_isQueued 2 (some .boolean), Cond.fieldLink RX3 13 "FutexKernelModel" "state" "[I", Cond.methodLink RX3 93 yX3_asks, Cond.instanceMethod yX3_asks, Cond.selects RX3 yX3_asks yX3_asks, Cond.code yX3_asks cX3_asks 2 (some .boolean), Cond.fieldLink RX3 46 "FutexKernelModel" "thrown" "I", Cond.methodLink RX3 149 yX3_bucketOf, Cond.static yX3_bucketOf, Cond.code yX3_bucketOf cX3_bucketOf 1 (some .int), Cond.methodLink RX3 156 yX3_thread, Cond.instanceMethod yX3_thread]
def wsX3_waiterAt_r2 : List Cond := [Cond.selects RX3 yX3_thread yX3_thread, Cond.code yX3_thread cX3_thread 8 (some .int), Cond.methodLink RX3 152 yX3_isIn, Cond.instanceMethod yX3_isIn, Cond.selects RX3 yX3_isIn yX3_isIn, Cond.code yX3_isIn cX3_isIn 4 (some .boolean), Cond.methodLink RX3 52 yX3_key, Cond.instanceMethod yX3_key, Cond.selects RX3 yX3_key yX3_key, Cond.code yX3_key cX3_key 2 (some .long), Cond.fieldLink RX3 16 "FutexKernelModel" "priority" "[I", Cond.constantLong RX3 50 (1000000000), Cond.fieldLink RX3 37 "FutexKernelModel" "joined" "[I"]
def wsX3_waiterAt : List Cond := .code yX3_waiterAt cX3_waiterAt 3 (some .int) :: ((wsX3_waiterAt_r1 ++ wsX3_waiterAt_r2) ++ wsX30)
def wsX3_queueAt_r1 : List Cond := [Cond.methodLink RX3 93 yX3_asks, Cond.instanceMethod yX3_asks, Cond.selects RX3 yX3_asks yX3_asks, Cond.initialized RX3, Cond.code yX3_asks cX3_asks 2 (some .boolean), Cond.fieldLink RX3 46 "FutexKernelModel" "thrown" "I", Cond.methodLink RX3 156 yX3_thread, Cond.instanceMethod yX3_thread, Cond.selects RX3 yX3_thread yX3_thread, Cond.code yX3_thread cX3_thread 8 (some .int), Cond.methodLink RX3 152 yX3_isIn, Cond.instanceMethod yX3_isIn, Cond.selects RX3 yX3_isIn yX3_isIn, Cond.code yX3_isIn cX3_isIn 4 (some .boolean), Cond.fieldLink RX3 25 "FutexKernelModel" "at" "[I", Cond.methodLink RX3 139 yX3_isQueued, Cond.instanceMethod yX3_isQueued, Cond.selects RX3 yX3_isQueued yX3_isQueued, Cond.code yX3_isQueued cX3_isQueued 2 (some .boolean), Cond.fieldLink RX3 13 "FutexKernelModel" "state" "[I", Cond.methodLink RX3 149 yX3_bucketOf, Cond.static yX3_bucketOf, Cond.code yX3_bucketOf cX3_bucketOf 1 (some .int), Cond.methodLink RX3 52 yX3_key]
def wsX3_queueAt_r2 : List Cond := [Cond.instanceMethod yX3_key, Cond.selects RX3 yX3_key yX3_key, Cond.code yX3_key cX3_key 2 (some .long), Cond.fieldLink RX3 16 "FutexKernelModel" "priority" "[I", Cond.constantLong RX3 50 (1000000000), Cond.fieldLink RX3 37 "FutexKernelModel" "joined" "[I"]
def wsX3_queueAt : List Cond := .code yX3_queueAt cX3_queueAt 3 (some .int) :: ((wsX3_queueAt_r1 ++ wsX3_queueAt_r2) ++ wsX30)
def wsL_store_r1 : List Cond := [Cond.classLink RL 13 "java/lang/IndexOutOfBoundsException", Cond.classLink RL 15 "java/lang/IllegalStateException", Cond.methodLink RL 7 yX2_store, Cond.instanceMethod yX2_store, Cond.selects RX2 yX2_store yX2_store, Cond.initialized RX2, Cond.code yX2_store cX2_store 6 (some .int), Cond.fieldLink RX2 9 "FutexKernel" "words" "[I", Cond.methodLink RX2 35 yX2_taskOf, Cond.instanceMethod yX2_taskOf, Cond.selects RX2 yX2_taskOf yX2_taskOf, Cond.code yX2_taskOf cX2_taskOf 2 (some (.object "FutexKernel$Task")), Cond.classLink RX2 105 "java/lang/IndexOutOfBoundsException", Cond.initialized "java/lang/IndexOutOfBoundsException", Cond.fieldLink RX2 15 "FutexKernel" "tasks" "[LFutexKernel$Task;", Cond.methodLink RX2 39 yX2_requireAddress, Cond.static yX2_requireAddress, Cond.code yX2_requireAddress cX2_requireAddress 1 none, Cond.methodLink RX2 186 yX2_isAddress, Cond.static yX2_isAddress, Cond.code yX2_isAddress cX2_isAddress 1 (some .boolean), Cond.methodLink RX2 42 yX2_requireRunning, Cond.static yX2_requireRunning, Cond.code yX2_requireRunning cX2_requireRunning 1 none]
def wsL_store_r2 : List Cond := [Cond.classLink RX2 84 "java/lang/IllegalStateException", Cond.initialized "java/lang/IllegalStateException", Cond.fieldLink RX2 76 "FutexKernel$Task" "state" "I"]
def wsL_store : List Cond := .codeWith yL_store cL_store 6 (some .int) [(0, 12, 15, 13), (0, 12, 19, 15)] :: ((wsL_store_r1 ++ wsL_store_r2) ++ wsX20 ++ wsX10 ++ (vx_atS RX2 109 "java/lang/IndexOutOfBoundsException" ["java/lang/RuntimeException", "java/lang/Exception"]).filter goodWord ++ (vx_atS RX2 88 "java/lang/IllegalStateException" ["java/lang/RuntimeException", "java/lang/Exception"]).filter goodWord)
def wsL_compareAndSet_r1 : List Cond := [Cond.classLink RL 13 "java/lang/IndexOutOfBoundsException", Cond.classLink RL 15 "java/lang/IllegalStateException", Cond.methodLink RL 17 yX2_compareAndSet, Cond.instanceMethod yX2_compareAndSet, Cond.selects RX2 yX2_compareAndSet yX2_compareAndSet, Cond.initialized RX2, Cond.code yX2_compareAndSet cX2_compareAndSet 6 (some .boolean), Cond.fieldLink RX2 9 "FutexKernel" "words" "[I", Cond.methodLink RX2 35 yX2_taskOf, Cond.instanceMethod yX2_taskOf, Cond.selects RX2 yX2_taskOf yX2_taskOf, Cond.code yX2_taskOf cX2_taskOf 2 (some (.object "FutexKernel$Task")), Cond.classLink RX2 105 "java/lang/IndexOutOfBoundsException", Cond.initialized "java/lang/IndexOutOfBoundsException", Cond.fieldLink RX2 15 "FutexKernel" "tasks" "[LFutexKernel$Task;", Cond.methodLink RX2 39 yX2_requireAddress, Cond.static yX2_requireAddress, Cond.code yX2_requireAddress cX2_requireAddress 1 none, Cond.methodLink RX2 186 yX2_isAddress, Cond.static yX2_isAddress, Cond.code yX2_isAddress cX2_isAddress 1 (some .boolean), Cond.methodLink RX2 42 yX2_requireRunning, Cond.static yX2_requireRunning, Cond.code yX2_requireRunning cX2_requireRunning 1 none]
def wsL_compareAndSet_r2 : List Cond := [Cond.classLink RX2 84 "java/lang/IllegalStateException", Cond.initialized "java/lang/IllegalStateException", Cond.fieldLink RX2 76 "FutexKernel$Task" "state" "I"]
def wsL_compareAndSet : List Cond := .codeWith yL_compareAndSet cL_compareAndSet 7 (some .int) [(0, 21, 24, 13), (0, 21, 28, 15)] :: ((wsL_compareAndSet_r1 ++ wsL_compareAndSet_r2) ++ wsX20 ++ wsX10 ++ (vx_atS RX2 109 "java/lang/IndexOutOfBoundsException" ["java/lang/RuntimeException", "java/lang/Exception"]).filter goodWord ++ (vx_atS RX2 88 "java/lang/IllegalStateException" ["java/lang/RuntimeException", "java/lang/Exception"]).filter goodWord)
def wsL_fetchAdd_r1 : List Cond := [Cond.classLink RL 13 "java/lang/IndexOutOfBoundsException", Cond.classLink RL 15 "java/lang/IllegalStateException", Cond.methodLink RL 21 yX2_fetchAdd, Cond.instanceMethod yX2_fetchAdd, Cond.selects RX2 yX2_fetchAdd yX2_fetchAdd, Cond.initialized RX2, Cond.code yX2_fetchAdd cX2_fetchAdd 6 (some .int), Cond.fieldLink RX2 9 "FutexKernel" "words" "[I", Cond.methodLink RX2 35 yX2_taskOf, Cond.instanceMethod yX2_taskOf, Cond.selects RX2 yX2_taskOf yX2_taskOf, Cond.code yX2_taskOf cX2_taskOf 2 (some (.object "FutexKernel$Task")), Cond.classLink RX2 105 "java/lang/IndexOutOfBoundsException", Cond.initialized "java/lang/IndexOutOfBoundsException", Cond.fieldLink RX2 15 "FutexKernel" "tasks" "[LFutexKernel$Task;", Cond.methodLink RX2 39 yX2_requireAddress, Cond.static yX2_requireAddress, Cond.code yX2_requireAddress cX2_requireAddress 1 none, Cond.methodLink RX2 186 yX2_isAddress, Cond.static yX2_isAddress, Cond.code yX2_isAddress cX2_isAddress 1 (some .boolean), Cond.methodLink RX2 42 yX2_requireRunning, Cond.static yX2_requireRunning, Cond.code yX2_requireRunning cX2_requireRunning 1 none]
def wsL_fetchAdd_r2 : List Cond := [Cond.classLink RX2 84 "java/lang/IllegalStateException", Cond.initialized "java/lang/IllegalStateException", Cond.fieldLink RX2 76 "FutexKernel$Task" "state" "I"]
def wsL_fetchAdd : List Cond := .codeWith yL_fetchAdd cL_fetchAdd 6 (some .int) [(0, 12, 15, 13), (0, 12, 19, 15)] :: ((wsL_fetchAdd_r1 ++ wsL_fetchAdd_r2) ++ wsX20 ++ wsX10 ++ (vx_atS RX2 109 "java/lang/IndexOutOfBoundsException" ["java/lang/RuntimeException", "java/lang/Exception"]).filter goodWord ++ (vx_atS RX2 88 "java/lang/IllegalStateException" ["java/lang/RuntimeException", "java/lang/Exception"]).filter goodWord)
def wsL_word : List Cond := .codeWith yL_word cL_word 4 (some .int) [(0, 9, 12, 13)] :: ([.classLink RL 13 "java/lang/IndexOutOfBoundsException", .methodLink RL 24 yX2_word, .instanceMethod yX2_word, .selects RX2 yX2_word yX2_word, .initialized RX2, .code yX2_word cX2_word 2 (some .int), .fieldLink RX2 9 "FutexKernel" "words" "[I", .methodLink RX2 39 yX2_requireAddress, .static yX2_requireAddress, .code yX2_requireAddress cX2_requireAddress 1 none, .classLink RX2 105 "java/lang/IndexOutOfBoundsException", .initialized "java/lang/IndexOutOfBoundsException", .methodLink RX2 186 yX2_isAddress, .static yX2_isAddress, .code yX2_isAddress cX2_isAddress 1 (some .boolean)] ++ wsX20 ++ (vx_atS RX2 109 "java/lang/IndexOutOfBoundsException" ["java/lang/RuntimeException", "java/lang/Exception"]).filter goodWord)
def wsL_await_r1 : List Cond := [Cond.classLink RL 13 "java/lang/IndexOutOfBoundsException", Cond.classLink RL 32 "java/lang/IllegalArgumentException", Cond.classLink RL 15 "java/lang/IllegalStateException", Cond.methodLink RL 28 yX2_await, Cond.instanceMethod yX2_await, Cond.selects RX2 yX2_await yX2_await, Cond.initialized RX2, Cond.code yX2_await cX2_await 7 (some .boolean), Cond.fieldLink RX2 9 "FutexKernel" "words" "[I", Cond.methodLink RX2 35 yX2_taskOf, Cond.instanceMethod yX2_taskOf, Cond.selects RX2 yX2_taskOf yX2_taskOf, Cond.code yX2_taskOf cX2_taskOf 2 (some (.object "FutexKernel$Task")), Cond.classLink RX2 105 "java/lang/IndexOutOfBoundsException", Cond.initialized "java/lang/IndexOutOfBoundsException", Cond.fieldLink RX2 15 "FutexKernel" "tasks" "[LFutexKernel$Task;", Cond.methodLink RX2 39 yX2_requireAddress, Cond.static yX2_requireAddress, Cond.code yX2_requireAddress cX2_requireAddress 1 none, Cond.methodLink RX2 186 yX2_isAddress, Cond.static yX2_isAddress, Cond.code yX2_isAddress cX2_isAddress 1 (some .boolean), Cond.methodLink RX2 46 yX2_requireBetween, Cond.static yX2_requireBetween]
def wsL_await_r2 : List Cond := [Cond.code yX2_requireBetween cX2_requireBetween 3 none, Cond.classLink RX2 58 "java/lang/IllegalArgumentException", Cond.initialized "java/lang/IllegalArgumentException", Cond.methodLink RX2 42 yX2_requireRunning, Cond.static yX2_requireRunning, Cond.code yX2_requireRunning cX2_requireRunning 1 none, Cond.classLink RX2 84 "java/lang/IllegalStateException", Cond.initialized "java/lang/IllegalStateException", Cond.fieldLink RX2 76 "FutexKernel$Task" "state" "I", Cond.methodLink RX2 50 yX2_beginWait, Cond.instanceMethod yX2_beginWait, Cond.selects RX2 yX2_beginWait yX2_beginWait, Cond.code yX2_beginWait cX2_beginWait 6 none, Cond.fieldLink RX2 205 "FutexKernel$Task" "mask" "I", Cond.fieldLink RX2 19 "FutexKernel" "time" "I", Cond.fieldLink RX2 166 "FutexKernel$Task" "deadline" "I", Cond.fieldLink RX2 26 "FutexKernel" "begunWaits" "I", Cond.fieldLink RX2 212 "FutexKernel$Task" "begun" "I", Cond.methodLink RX2 159 yX2_joinQueue, Cond.instanceMethod yX2_joinQueue, Cond.selects RX2 yX2_joinQueue yX2_joinQueue, Cond.code yX2_joinQueue cX2_joinQueue 3 none, Cond.fieldLink RX2 156 "FutexKernel$Task" "address" "I", Cond.fieldLink RX2 29 "FutexKernel" "joins" "I"]
def wsL_await_r3 : List Cond := [Cond.fieldLink RX2 198 "FutexKernel$Task" "joined" "I"]
def wsL_await : List Cond := .codeWith yL_await cL_await 8 (some .int) [(0, 23, 26, 13), (0, 23, 30, 32), (0, 23, 34, 15)] :: ((wsL_await_r1 ++ (wsL_await_r2 ++ wsL_await_r3)) ++ wsX20 ++ wsX10 ++ (vx_atS RX2 109 "java/lang/IndexOutOfBoundsException" ["java/lang/RuntimeException", "java/lang/Exception"]).filter goodWord ++ (vx_atS RX2 62 "java/lang/IllegalArgumentException" ["java/lang/RuntimeException", "java/lang/Exception"]).filter goodWord ++ (vx_atS RX2 88 "java/lang/IllegalStateException" ["java/lang/RuntimeException", "java/lang/Exception"]).filter goodWord)
def wsL_wake_r1 : List Cond := [Cond.classLink RL 13 "java/lang/IndexOutOfBoundsException", Cond.classLink RL 32 "java/lang/IllegalArgumentException", Cond.classLink RL 15 "java/lang/IllegalStateException", Cond.methodLink RL 34 yX2_wake, Cond.instanceMethod yX2_wake, Cond.selects RX2 yX2_wake yX2_wake, Cond.initialized RX2, Cond.code yX2_wake cX2_wake 6 (some .int), Cond.methodLink RX2 35 yX2_taskOf, Cond.instanceMethod yX2_taskOf, Cond.selects RX2 yX2_taskOf yX2_taskOf, Cond.code yX2_taskOf cX2_taskOf 2 (some (.object "FutexKernel$Task")), Cond.classLink RX2 105 "java/lang/IndexOutOfBoundsException", Cond.initialized "java/lang/IndexOutOfBoundsException", Cond.fieldLink RX2 15 "FutexKernel" "tasks" "[LFutexKernel$Task;", Cond.methodLink RX2 39 yX2_requireAddress, Cond.static yX2_requireAddress, Cond.code yX2_requireAddress cX2_requireAddress 1 none, Cond.methodLink RX2 186 yX2_isAddress, Cond.static yX2_isAddress, Cond.code yX2_isAddress cX2_isAddress 1 (some .boolean), Cond.methodLink RX2 46 yX2_requireBetween, Cond.static yX2_requireBetween, Cond.code yX2_requireBetween cX2_requireBetween 3 none]
def wsL_wake_r2 : List Cond := [Cond.classLink RX2 58 "java/lang/IllegalArgumentException", Cond.initialized "java/lang/IllegalArgumentException", Cond.methodLink RX2 42 yX2_requireRunning, Cond.static yX2_requireRunning, Cond.code yX2_requireRunning cX2_requireRunning 1 none, Cond.classLink RX2 84 "java/lang/IllegalStateException", Cond.initialized "java/lang/IllegalStateException", Cond.fieldLink RX2 76 "FutexKernel$Task" "state" "I", Cond.methodLink RX2 54 yX2_wakeFirst, Cond.instanceMethod yX2_wakeFirst, Cond.selects RX2 yX2_wakeFirst yX2_wakeFirst, Cond.code yX2_wakeFirst cX2_wakeFirst 6 (some .int), Cond.methodLink RX2 208 yX2_firstAt, Cond.instanceMethod yX2_firstAt, Cond.selects RX2 yX2_firstAt yX2_firstAt, Cond.code yX2_firstAt cX2_firstAt 10 (some (.object "FutexKernel$Task")), Cond.fieldLink RX2 156 "FutexKernel$Task" "address" "I", Cond.fieldLink RX2 205 "FutexKernel$Task" "mask" "I", Cond.methodLink RX2 201 yX1_isAheadOf, Cond.instanceMethod yX1_isAheadOf, Cond.selects RX1 yX1_isAheadOf yX1_isAheadOf, Cond.initialized RX1, Cond.code yX1_isAheadOf cX1_isAheadOf 2 (some .boolean), Cond.fieldLink RX1 22 "FutexKernel$Task" "priority" "I"]
def wsL_wake_r3 : List Cond := [Cond.fieldLink RX1 37 "FutexKernel$Task" "joined" "I", Cond.methodLink RX2 132 yX2_endWait, Cond.instanceMethod yX2_endWait, Cond.selects RX2 yX2_endWait yX2_endWait, Cond.code yX2_endWait cX2_endWait 3 none, Cond.fieldLink RX2 150 "FutexKernel$Task" "result" "I", Cond.fieldLink RX2 23 "FutexKernel" "endedWaits" "I", Cond.fieldLink RX2 153 "FutexKernel$Task" "serial" "I", Cond.methodLink RX2 139 yX2_leaveQueue, Cond.instanceMethod yX2_leaveQueue, Cond.selects RX2 yX2_leaveQueue yX2_leaveQueue, Cond.code yX2_leaveQueue cX2_leaveQueue 4 none, Cond.fieldLink RX2 166 "FutexKernel$Task" "deadline" "I", Cond.fieldLink RX2 9 "FutexKernel" "words" "[I", Cond.constant RX2 218 (2147483647), Cond.methodLink RX2 215 yX2_firstLockingAt, Cond.instanceMethod yX2_firstLockingAt, Cond.selects RX2 yX2_firstLockingAt yX2_firstLockingAt, Cond.code yX2_firstLockingAt cX2_firstLockingAt 2 (some (.object "FutexKernel$Task"))]
def wsL_wake : List Cond := .codeWith yL_wake cL_wake 7 (some .int) [(0, 14, 17, 13), (0, 14, 21, 32), (0, 14, 25, 15)] :: ((wsL_wake_r1 ++ (wsL_wake_r2 ++ wsL_wake_r3)) ++ wsX20 ++ wsX10 ++ (vx_atS RX2 109 "java/lang/IndexOutOfBoundsException" ["java/lang/RuntimeException", "java/lang/Exception"]).filter goodWord ++ (vx_atS RX2 62 "java/lang/IllegalArgumentException" ["java/lang/RuntimeException", "java/lang/Exception"]).filter goodWord ++ (vx_atS RX2 88 "java/lang/IllegalStateException" ["java/lang/RuntimeException", "java/lang/Exception"]).filter goodWord)
def wsL_requeue_r1 : List Cond := [Cond.classLink RL 13 "java/lang/IndexOutOfBoundsException", Cond.classLink RL 32 "java/lang/IllegalArgumentException", Cond.classLink RL 15 "java/lang/IllegalStateException", Cond.methodLink RL 38 yX2_requeue, Cond.instanceMethod yX2_requeue, Cond.selects RX2 yX2_requeue yX2_requeue, Cond.initialized RX2, Cond.code yX2_requeue cX2_requeue 9 (some .int), Cond.classLink RX2 58 "java/lang/IllegalArgumentException", Cond.initialized "java/lang/IllegalArgumentException", Cond.fieldLink RX2 9 "FutexKernel" "words" "[I", Cond.methodLink RX2 35 yX2_taskOf, Cond.instanceMethod yX2_taskOf, Cond.selects RX2 yX2_taskOf yX2_taskOf, Cond.code yX2_taskOf cX2_taskOf 2 (some (.object "FutexKernel$Task")), Cond.classLink RX2 105 "java/lang/IndexOutOfBoundsException", Cond.initialized "java/lang/IndexOutOfBoundsException", Cond.fieldLink RX2 15 "FutexKernel" "tasks" "[LFutexKernel$Task;", Cond.methodLink RX2 39 yX2_requireAddress, Cond.static yX2_requireAddress, Cond.code yX2_requireAddress cX2_requireAddress 1 none, Cond.methodLink RX2 186 yX2_isAddress, Cond.static yX2_isAddress, Cond.code yX2_isAddress cX2_isAddress 1 (some .boolean)]
def wsL_requeue_r2 : List Cond := [Cond.methodLink RX2 46 yX2_requireBetween, Cond.static yX2_requireBetween, Cond.code yX2_requireBetween cX2_requireBetween 3 none, Cond.methodLink RX2 42 yX2_requireRunning, Cond.static yX2_requireRunning, Cond.code yX2_requireRunning cX2_requireRunning 1 none, Cond.classLink RX2 84 "java/lang/IllegalStateException", Cond.initialized "java/lang/IllegalStateException", Cond.fieldLink RX2 76 "FutexKernel$Task" "state" "I", Cond.methodLink RX2 54 yX2_wakeFirst, Cond.instanceMethod yX2_wakeFirst, Cond.selects RX2 yX2_wakeFirst yX2_wakeFirst, Cond.code yX2_wakeFirst cX2_wakeFirst 6 (some .int), Cond.methodLink RX2 208 yX2_firstAt, Cond.instanceMethod yX2_firstAt, Cond.selects RX2 yX2_firstAt yX2_firstAt, Cond.code yX2_firstAt cX2_firstAt 10 (some (.object "FutexKernel$Task")), Cond.fieldLink RX2 156 "FutexKernel$Task" "address" "I", Cond.fieldLink RX2 205 "FutexKernel$Task" "mask" "I", Cond.methodLink RX2 201 yX1_isAheadOf, Cond.instanceMethod yX1_isAheadOf, Cond.selects RX1 yX1_isAheadOf yX1_isAheadOf, Cond.initialized RX1, Cond.code yX1_isAheadOf cX1_isAheadOf 2 (some .boolean)]
def wsL_requeue_r3 : List Cond := [Cond.fieldLink RX1 22 "FutexKernel$Task" "priority" "I", Cond.fieldLink RX1 37 "FutexKernel$Task" "joined" "I", Cond.methodLink RX2 132 yX2_endWait, Cond.instanceMethod yX2_endWait, Cond.selects RX2 yX2_endWait yX2_endWait, Cond.code yX2_endWait cX2_endWait 3 none, Cond.fieldLink RX2 150 "FutexKernel$Task" "result" "I", Cond.fieldLink RX2 23 "FutexKernel" "endedWaits" "I", Cond.fieldLink RX2 153 "FutexKernel$Task" "serial" "I", Cond.methodLink RX2 139 yX2_leaveQueue, Cond.instanceMethod yX2_leaveQueue, Cond.selects RX2 yX2_leaveQueue yX2_leaveQueue, Cond.code yX2_leaveQueue cX2_leaveQueue 4 none, Cond.fieldLink RX2 166 "FutexKernel$Task" "deadline" "I", Cond.constant RX2 218 (2147483647), Cond.methodLink RX2 215 yX2_firstLockingAt, Cond.instanceMethod yX2_firstLockingAt, Cond.selects RX2 yX2_firstLockingAt yX2_firstLockingAt, Cond.code yX2_firstLockingAt cX2_firstLockingAt 2 (some (.object "FutexKernel$Task")), Cond.methodLink RX2 65 yX2_moveFirst, Cond.instanceMethod yX2_moveFirst, Cond.selects RX2 yX2_moveFirst yX2_moveFirst, Cond.code yX2_moveFirst cX2_moveFirst 6 (some .int), Cond.methodLink RX2 159 yX2_joinQueue]
def wsL_requeue_r4 : List Cond := [Cond.instanceMethod yX2_joinQueue, Cond.selects RX2 yX2_joinQueue yX2_joinQueue, Cond.code yX2_joinQueue cX2_joinQueue 3 none, Cond.fieldLink RX2 29 "FutexKernel" "joins" "I", Cond.fieldLink RX2 198 "FutexKernel$Task" "joined" "I"]
def wsL_requeue : List Cond := .codeWith yL_requeue cL_requeue 9 (some .int) [(0, 18, 21, 13), (0, 18, 25, 32), (0, 18, 29, 15)] :: ((wsL_requeue_r1 ++ (wsL_requeue_r2 ++ (wsL_requeue_r3 ++ wsL_requeue_r4))) ++ wsX20 ++ wsX10 ++ (vx_atS RX2 62 "java/lang/IllegalArgumentException" ["java/lang/RuntimeException", "java/lang/Exception"]).filter goodWord ++ (vx_atS RX2 109 "java/lang/IndexOutOfBoundsException" ["java/lang/RuntimeException", "java/lang/Exception"]).filter goodWord ++ (vx_atS RX2 88 "java/lang/IllegalStateException" ["java/lang/RuntimeException", "java/lang/Exception"]).filter goodWord)
def wsL_lock_r1 : List Cond := [Cond.classLink RL 13 "java/lang/IndexOutOfBoundsException", Cond.classLink RL 32 "java/lang/IllegalArgumentException", Cond.classLink RL 15 "java/lang/IllegalStateException", Cond.methodLink RL 42 yX2_lock, Cond.instanceMethod yX2_lock, Cond.selects RX2 yX2_lock yX2_lock, Cond.initialized RX2, Cond.code yX2_lock cX2_lock 7 (some .int), Cond.fieldLink RX2 9 "FutexKernel" "words" "[I", Cond.constant RX2 68 (1073741824), Cond.fieldLink RX2 76 "FutexKernel$Task" "state" "I", Cond.constant RX2 83 (-2147483648), Cond.methodLink RX2 35 yX2_taskOf, Cond.instanceMethod yX2_taskOf, Cond.selects RX2 yX2_taskOf yX2_taskOf, Cond.code yX2_taskOf cX2_taskOf 2 (some (.object "FutexKernel$Task")), Cond.classLink RX2 105 "java/lang/IndexOutOfBoundsException", Cond.initialized "java/lang/IndexOutOfBoundsException", Cond.fieldLink RX2 15 "FutexKernel" "tasks" "[LFutexKernel$Task;", Cond.methodLink RX2 39 yX2_requireAddress, Cond.static yX2_requireAddress, Cond.code yX2_requireAddress cX2_requireAddress 1 none, Cond.methodLink RX2 186 yX2_isAddress, Cond.static yX2_isAddress]
def wsL_lock_r2 : List Cond := [Cond.code yX2_isAddress cX2_isAddress 1 (some .boolean), Cond.methodLink RX2 46 yX2_requireBetween, Cond.static yX2_requireBetween, Cond.code yX2_requireBetween cX2_requireBetween 3 none, Cond.classLink RX2 58 "java/lang/IllegalArgumentException", Cond.initialized "java/lang/IllegalArgumentException", Cond.methodLink RX2 42 yX2_requireRunning, Cond.static yX2_requireRunning, Cond.code yX2_requireRunning cX2_requireRunning 1 none, Cond.classLink RX2 84 "java/lang/IllegalStateException", Cond.initialized "java/lang/IllegalStateException", Cond.methodLink RX2 69 yX2_giveLock, Cond.instanceMethod yX2_giveLock, Cond.selects RX2 yX2_giveLock yX2_giveLock, Cond.code yX2_giveLock cX2_giveLock 5 none, Cond.fieldLink RX2 173 "FutexKernel$Task" "number" "I", Cond.fieldLink RX2 89 "FutexKernel$Task" "held" "LFutexKernel$LockList;", Cond.methodLink RX2 215 yX2_firstLockingAt, Cond.instanceMethod yX2_firstLockingAt, Cond.selects RX2 yX2_firstLockingAt yX2_firstLockingAt, Cond.code yX2_firstLockingAt cX2_firstLockingAt 2 (some (.object "FutexKernel$Task")), Cond.methodLink RX2 208 yX2_firstAt, Cond.instanceMethod yX2_firstAt, Cond.selects RX2 yX2_firstAt yX2_firstAt]
def wsL_lock_r3 : List Cond := [Cond.code yX2_firstAt cX2_firstAt 10 (some (.object "FutexKernel$Task")), Cond.fieldLink RX2 156 "FutexKernel$Task" "address" "I", Cond.fieldLink RX2 205 "FutexKernel$Task" "mask" "I", Cond.methodLink RX2 201 yX1_isAheadOf, Cond.instanceMethod yX1_isAheadOf, Cond.selects RX1 yX1_isAheadOf yX1_isAheadOf, Cond.initialized RX1, Cond.code yX1_isAheadOf cX1_isAheadOf 2 (some .boolean), Cond.fieldLink RX1 22 "FutexKernel$Task" "priority" "I", Cond.fieldLink RX1 37 "FutexKernel$Task" "joined" "I", Cond.methodLink RX2 222 yX0_add, Cond.instanceMethod yX0_add, Cond.selects RX0 yX0_add yX0_add, Cond.initialized RX0, Cond.code yX0_add cX0_add 2 none, Cond.fieldLink RX0 15 "FutexKernel$LockList" "size" "I", Cond.fieldLink RX0 9 "FutexKernel$LockList" "addresses" "[I", Cond.methodLink RX0 19 yX0_placeOf, Cond.instanceMethod yX0_placeOf, Cond.selects RX0 yX0_placeOf yX0_placeOf, Cond.code yX0_placeOf cX0_placeOf 3 (some .int), Cond.methodLink RX2 73 yX2_ownerAt, Cond.instanceMethod yX2_ownerAt, Cond.selects RX2 yX2_ownerAt yX2_ownerAt]
def wsL_lock_r4 : List Cond := [Cond.code yX2_ownerAt cX2_ownerAt 3 (some (.object "FutexKernel$Task")), Cond.methodLink RX2 79 yX2_isHeldUpBy, Cond.instanceMethod yX2_isHeldUpBy, Cond.selects RX2 yX2_isHeldUpBy yX2_isHeldUpBy, Cond.code yX2_isHeldUpBy cX2_isHeldUpBy 5 (some .boolean), Cond.methodLink RX2 50 yX2_beginWait, Cond.instanceMethod yX2_beginWait, Cond.selects RX2 yX2_beginWait yX2_beginWait, Cond.code yX2_beginWait cX2_beginWait 6 none, Cond.fieldLink RX2 19 "FutexKernel" "time" "I", Cond.fieldLink RX2 166 "FutexKernel$Task" "deadline" "I", Cond.fieldLink RX2 26 "FutexKernel" "begunWaits" "I", Cond.fieldLink RX2 212 "FutexKernel$Task" "begun" "I", Cond.methodLink RX2 159 yX2_joinQueue, Cond.instanceMethod yX2_joinQueue, Cond.selects RX2 yX2_joinQueue yX2_joinQueue, Cond.code yX2_joinQueue cX2_joinQueue 3 none, Cond.fieldLink RX2 29 "FutexKernel" "joins" "I", Cond.fieldLink RX2 198 "FutexKernel$Task" "joined" "I"]
def wsL_lock : List Cond := .codeWith yL_lock cL_lock 6 (some .int) [(0, 12, 15, 13), (0, 12, 19, 32), (0, 12, 23, 15)] :: ((wsL_lock_r1 ++ (wsL_lock_r2 ++ (wsL_lock_r3 ++ wsL_lock_r4))) ++ wsX20 ++ wsX10 ++ wsX00 ++ (vx_atS RX2 109 "java/lang/IndexOutOfBoundsException" ["java/lang/RuntimeException", "java/lang/Exception"]).filter goodWord ++ (vx_atS RX2 62 "java/lang/IllegalArgumentException" ["java/lang/RuntimeException", "java/lang/Exception"]).filter goodWord ++ (vx_atS RX2 88 "java/lang/IllegalStateException" ["java/lang/RuntimeException", "java/lang/Exception"]).filter goodWord)
def wsL_unlock_r1 : List Cond := [Cond.classLink RL 13 "java/lang/IndexOutOfBoundsException", Cond.classLink RL 15 "java/lang/IllegalStateException", Cond.methodLink RL 45 yX2_unlock, Cond.instanceMethod yX2_unlock, Cond.selects RX2 yX2_unlock yX2_unlock, Cond.initialized RX2, Cond.code yX2_unlock cX2_unlock 4 (some .int), Cond.classLink RX2 84 "java/lang/IllegalStateException", Cond.initialized "java/lang/IllegalStateException", Cond.fieldLink RX2 89 "FutexKernel$Task" "held" "LFutexKernel$LockList;", Cond.methodLink RX2 35 yX2_taskOf, Cond.instanceMethod yX2_taskOf, Cond.selects RX2 yX2_taskOf yX2_taskOf, Cond.code yX2_taskOf cX2_taskOf 2 (some (.object "FutexKernel$Task")), Cond.classLink RX2 105 "java/lang/IndexOutOfBoundsException", Cond.initialized "java/lang/IndexOutOfBoundsException", Cond.fieldLink RX2 15 "FutexKernel" "tasks" "[LFutexKernel$Task;", Cond.methodLink RX2 39 yX2_requireAddress, Cond.static yX2_requireAddress, Cond.code yX2_requireAddress cX2_requireAddress 1 none, Cond.methodLink RX2 186 yX2_isAddress, Cond.static yX2_isAddress, Cond.code yX2_isAddress cX2_isAddress 1 (some .boolean), Cond.methodLink RX2 42 yX2_requireRunning]
def wsL_unlock_r2 : List Cond := [Cond.static yX2_requireRunning, Cond.code yX2_requireRunning cX2_requireRunning 1 none, Cond.fieldLink RX2 76 "FutexKernel$Task" "state" "I", Cond.methodLink RX2 73 yX2_ownerAt, Cond.instanceMethod yX2_ownerAt, Cond.selects RX2 yX2_ownerAt yX2_ownerAt, Cond.code yX2_ownerAt cX2_ownerAt 3 (some (.object "FutexKernel$Task")), Cond.fieldLink RX2 9 "FutexKernel" "words" "[I", Cond.methodLink RX2 93 yX0_drop, Cond.instanceMethod yX0_drop, Cond.selects RX0 yX0_drop yX0_drop, Cond.initialized RX0, Cond.code yX0_drop cX0_drop 4 none, Cond.fieldLink RX0 15 "FutexKernel$LockList" "size" "I", Cond.fieldLink RX0 9 "FutexKernel$LockList" "addresses" "[I", Cond.methodLink RX0 19 yX0_placeOf, Cond.instanceMethod yX0_placeOf, Cond.selects RX0 yX0_placeOf yX0_placeOf, Cond.code yX0_placeOf cX0_placeOf 3 (some .int), Cond.methodLink RX2 98 yX2_passOn, Cond.instanceMethod yX2_passOn, Cond.selects RX2 yX2_passOn yX2_passOn, Cond.code yX2_passOn cX2_passOn 5 (some .int), Cond.constant RX2 68 (1073741824)]
def wsL_unlock_r3 : List Cond := [Cond.fieldLink RX2 173 "FutexKernel$Task" "number" "I", Cond.methodLink RX2 215 yX2_firstLockingAt, Cond.instanceMethod yX2_firstLockingAt, Cond.selects RX2 yX2_firstLockingAt yX2_firstLockingAt, Cond.code yX2_firstLockingAt cX2_firstLockingAt 2 (some (.object "FutexKernel$Task")), Cond.methodLink RX2 208 yX2_firstAt, Cond.instanceMethod yX2_firstAt, Cond.selects RX2 yX2_firstAt yX2_firstAt, Cond.code yX2_firstAt cX2_firstAt 10 (some (.object "FutexKernel$Task")), Cond.fieldLink RX2 156 "FutexKernel$Task" "address" "I", Cond.fieldLink RX2 205 "FutexKernel$Task" "mask" "I", Cond.methodLink RX2 201 yX1_isAheadOf, Cond.instanceMethod yX1_isAheadOf, Cond.selects RX1 yX1_isAheadOf yX1_isAheadOf, Cond.initialized RX1, Cond.code yX1_isAheadOf cX1_isAheadOf 2 (some .boolean), Cond.fieldLink RX1 22 "FutexKernel$Task" "priority" "I", Cond.fieldLink RX1 37 "FutexKernel$Task" "joined" "I", Cond.methodLink RX2 132 yX2_endWait, Cond.instanceMethod yX2_endWait, Cond.selects RX2 yX2_endWait yX2_endWait, Cond.code yX2_endWait cX2_endWait 3 none, Cond.fieldLink RX2 150 "FutexKernel$Task" "result" "I", Cond.fieldLink RX2 23 "FutexKernel" "endedWaits" "I"]
def wsL_unlock_r4 : List Cond := [Cond.fieldLink RX2 153 "FutexKernel$Task" "serial" "I", Cond.methodLink RX2 139 yX2_leaveQueue, Cond.instanceMethod yX2_leaveQueue, Cond.selects RX2 yX2_leaveQueue yX2_leaveQueue, Cond.code yX2_leaveQueue cX2_leaveQueue 4 none, Cond.fieldLink RX2 166 "FutexKernel$Task" "deadline" "I", Cond.constant RX2 218 (2147483647), Cond.methodLink RX2 69 yX2_giveLock, Cond.instanceMethod yX2_giveLock, Cond.selects RX2 yX2_giveLock yX2_giveLock, Cond.code yX2_giveLock cX2_giveLock 5 none, Cond.constant RX2 83 (-2147483648), Cond.methodLink RX2 222 yX0_add, Cond.instanceMethod yX0_add, Cond.selects RX0 yX0_add yX0_add, Cond.code yX0_add cX0_add 2 none]
def wsL_unlock : List Cond := .codeWith yL_unlock cL_unlock 5 (some .int) [(0, 10, 13, 13), (0, 10, 17, 15)] :: ((wsL_unlock_r1 ++ (wsL_unlock_r2 ++ (wsL_unlock_r3 ++ wsL_unlock_r4))) ++ wsX10 ++ wsX20 ++ wsX00 ++ (vx_atS RX2 88 "java/lang/IllegalStateException" ["java/lang/RuntimeException", "java/lang/Exception"]).filter goodWord ++ (vx_atS RX2 109 "java/lang/IndexOutOfBoundsException" ["java/lang/RuntimeException", "java/lang/Exception"]).filter goodWord)
def wsL_locks : List Cond := .codeWith yL_locks cL_locks 4 (some .int) [(0, 9, 12, 13)] :: ([.classLink RL 13 "java/lang/IndexOutOfBoundsException", .methodLink RL 49 yX2_locks, .instanceMethod yX2_locks, .selects RX2 yX2_locks yX2_locks, .initialized RX2, .code yX2_locks cX2_locks 2 (some .int), .fieldLink RX2 89 "FutexKernel$Task" "held" "LFutexKernel$LockList;", .fieldLink RX2 102 "FutexKernel$LockList" "size" "I", .methodLink RX2 35 yX2_taskOf, .instanceMethod yX2_taskOf, .selects RX2 yX2_taskOf yX2_taskOf, .code yX2_taskOf cX2_taskOf 2 (some (.object "FutexKernel$Task")), .classLink RX2 105 "java/lang/IndexOutOfBoundsException", .initialized "java/lang/IndexOutOfBoundsException", .fieldLink RX2 15 "FutexKernel" "tasks" "[LFutexKernel$Task;"] ++ wsX10 ++ wsX00 ++ wsX20 ++ (vx_atS RX2 109 "java/lang/IndexOutOfBoundsException" ["java/lang/RuntimeException", "java/lang/Exception"]).filter goodWord)
def wsL_lockAt : List Cond := .codeWith yL_lockAt cL_lockAt 5 (some .int) [(0, 10, 13, 13)] :: ([.classLink RL 13 "java/lang/IndexOutOfBoundsException", .methodLink RL 52 yX2_lockAt, .instanceMethod yX2_lockAt, .selects RX2 yX2_lockAt yX2_lockAt, .initialized RX2, .code yX2_lockAt cX2_lockAt 4 (some .int), .classLink RX2 105 "java/lang/IndexOutOfBoundsException", .initialized "java/lang/IndexOutOfBoundsException", .fieldLink RX2 89 "FutexKernel$Task" "held" "LFutexKernel$LockList;", .fieldLink RX2 102 "FutexKernel$LockList" "size" "I", .methodLink RX2 35 yX2_taskOf, .instanceMethod yX2_taskOf, .selects RX2 yX2_taskOf yX2_taskOf, .code yX2_taskOf cX2_taskOf 2 (some (.object "FutexKernel$Task")), .fieldLink RX2 15 "FutexKernel" "tasks" "[LFutexKernel$Task;", .methodLink RX2 110 yX0_addressAt, .instanceMethod yX0_addressAt, .selects RX0 yX0_addressAt yX0_addressAt, .initialized RX0, .code yX0_addressAt cX0_addressAt 2 (some .int), .fieldLink RX0 15 "FutexKernel$LockList" "size" "I", .fieldLink RX0 9 "FutexKernel$LockList" "addresses" "[I"] ++ wsX10 ++ wsX00 ++ wsX20 ++ (vx_atS RX2 109 "java/lang/IndexOutOfBoundsException" ["java/lang/RuntimeException", "java/lang/Exception"]).filter goodWord)
def wsL_blockedBy_r1 : List Cond := [Cond.classLink RL 13 "java/lang/IndexOutOfBoundsException", Cond.methodLink RL 55 yX2_blockedBy, Cond.instanceMethod yX2_blockedBy, Cond.selects RX2 yX2_blockedBy yX2_blockedBy, Cond.initialized RX2, Cond.code yX2_blockedBy cX2_blockedBy 4 (some .int), Cond.methodLink RX2 35 yX2_taskOf, Cond.instanceMethod yX2_taskOf, Cond.selects RX2 yX2_taskOf yX2_taskOf, Cond.code yX2_taskOf cX2_taskOf 2 (some (.object "FutexKernel$Task")), Cond.classLink RX2 105 "java/lang/IndexOutOfBoundsException", Cond.initialized "java/lang/IndexOutOfBoundsException", Cond.fieldLink RX2 15 "FutexKernel" "tasks" "[LFutexKernel$Task;", Cond.methodLink RX2 114 yX1_bit, Cond.instanceMethod yX1_bit, Cond.selects RX1 yX1_bit yX1_bit, Cond.initialized RX1, Cond.code yX1_bit cX1_bit 1 (some .int), Cond.fieldLink RX1 46 "FutexKernel$Task" "number" "I", Cond.methodLink RX2 118 yX2_blockedByOneOf, Cond.instanceMethod yX2_blockedByOneOf, Cond.selects RX2 yX2_blockedByOneOf yX2_blockedByOneOf, Cond.code yX2_blockedByOneOf cX2_blockedByOneOf 8 (some .int), Cond.fieldLink RX2 76 "FutexKernel$Task" "state" "I"]
def wsL_blockedBy_r2 : List Cond := [Cond.fieldLink RX2 156 "FutexKernel$Task" "address" "I", Cond.methodLink RX2 73 yX2_ownerAt, Cond.instanceMethod yX2_ownerAt, Cond.selects RX2 yX2_ownerAt yX2_ownerAt, Cond.code yX2_ownerAt cX2_ownerAt 3 (some (.object "FutexKernel$Task")), Cond.fieldLink RX2 9 "FutexKernel" "words" "[I", Cond.methodLink RX2 186 yX2_isAddress, Cond.static yX2_isAddress, Cond.code yX2_isAddress cX2_isAddress 1 (some .boolean), Cond.methodLink RX2 121 yJ6_bitCount_0f7a4, Cond.static yJ6_bitCount_0f7a4, Cond.initialized RJ6, Cond.code yJ6_bitCount_0f7a4 cJ6_bitCount_0f7a4 1 (some .int), Cond.constant RJ6 265 (1431655765), Cond.constant RJ6 266 (858993459), Cond.constant RJ6 267 (252645135)]
def wsL_blockedBy : List Cond := .codeWith yL_blockedBy cL_blockedBy 4 (some .int) [(0, 9, 12, 13)] :: ((wsL_blockedBy_r1 ++ wsL_blockedBy_r2) ++ wsX20 ++ wsX10 ++ (vx_atS RX2 109 "java/lang/IndexOutOfBoundsException" ["java/lang/RuntimeException", "java/lang/Exception"]).filter goodWord)
def wsL_interrupt_r1 : List Cond := [Cond.classLink RL 13 "java/lang/IndexOutOfBoundsException", Cond.classLink RL 15 "java/lang/IllegalStateException", Cond.methodLink RL 58 yX2_interrupt, Cond.instanceMethod yX2_interrupt, Cond.selects RX2 yX2_interrupt yX2_interrupt, Cond.initialized RX2, Cond.code yX2_interrupt cX2_interrupt 3 none, Cond.classLink RX2 84 "java/lang/IllegalStateException", Cond.initialized "java/lang/IllegalStateException", Cond.methodLink RX2 35 yX2_taskOf, Cond.instanceMethod yX2_taskOf, Cond.selects RX2 yX2_taskOf yX2_taskOf, Cond.code yX2_taskOf cX2_taskOf 2 (some (.object "FutexKernel$Task")), Cond.classLink RX2 105 "java/lang/IndexOutOfBoundsException", Cond.initialized "java/lang/IndexOutOfBoundsException", Cond.fieldLink RX2 15 "FutexKernel" "tasks" "[LFutexKernel$Task;", Cond.methodLink RX2 126 yX1_isQueued, Cond.instanceMethod yX1_isQueued, Cond.selects RX1 yX1_isQueued yX1_isQueued, Cond.initialized RX1, Cond.code yX1_isQueued cX1_isQueued 1 (some .boolean), Cond.fieldLink RX1 25 "FutexKernel$Task" "address" "I", Cond.methodLink RX2 132 yX2_endWait, Cond.instanceMethod yX2_endWait]
def wsL_interrupt_r2 : List Cond := [Cond.selects RX2 yX2_endWait yX2_endWait, Cond.code yX2_endWait cX2_endWait 3 none, Cond.fieldLink RX2 150 "FutexKernel$Task" "result" "I", Cond.fieldLink RX2 23 "FutexKernel" "endedWaits" "I", Cond.fieldLink RX2 153 "FutexKernel$Task" "serial" "I", Cond.methodLink RX2 139 yX2_leaveQueue, Cond.instanceMethod yX2_leaveQueue, Cond.selects RX2 yX2_leaveQueue yX2_leaveQueue, Cond.code yX2_leaveQueue cX2_leaveQueue 4 none, Cond.fieldLink RX2 156 "FutexKernel$Task" "address" "I", Cond.fieldLink RX2 76 "FutexKernel$Task" "state" "I", Cond.fieldLink RX2 166 "FutexKernel$Task" "deadline" "I", Cond.fieldLink RX2 9 "FutexKernel" "words" "[I", Cond.constant RX2 218 (2147483647), Cond.methodLink RX2 186 yX2_isAddress, Cond.static yX2_isAddress, Cond.code yX2_isAddress cX2_isAddress 1 (some .boolean), Cond.methodLink RX2 215 yX2_firstLockingAt, Cond.instanceMethod yX2_firstLockingAt, Cond.selects RX2 yX2_firstLockingAt yX2_firstLockingAt, Cond.code yX2_firstLockingAt cX2_firstLockingAt 2 (some (.object "FutexKernel$Task")), Cond.methodLink RX2 208 yX2_firstAt, Cond.instanceMethod yX2_firstAt, Cond.selects RX2 yX2_firstAt yX2_firstAt]
def wsL_interrupt_r3 : List Cond := [Cond.code yX2_firstAt cX2_firstAt 10 (some (.object "FutexKernel$Task")), Cond.fieldLink RX2 205 "FutexKernel$Task" "mask" "I", Cond.methodLink RX2 201 yX1_isAheadOf, Cond.instanceMethod yX1_isAheadOf, Cond.selects RX1 yX1_isAheadOf yX1_isAheadOf, Cond.code yX1_isAheadOf cX1_isAheadOf 2 (some .boolean), Cond.fieldLink RX1 22 "FutexKernel$Task" "priority" "I", Cond.fieldLink RX1 37 "FutexKernel$Task" "joined" "I"]
def wsL_interrupt : List Cond := .codeWith yL_interrupt cL_interrupt 3 (some .int) [(0, 5, 8, 13), (0, 5, 11, 15)] :: ((wsL_interrupt_r1 ++ (wsL_interrupt_r2 ++ wsL_interrupt_r3)) ++ wsX20 ++ wsX10 ++ (vx_atS RX2 88 "java/lang/IllegalStateException" ["java/lang/RuntimeException", "java/lang/Exception"]).filter goodWord ++ (vx_atS RX2 109 "java/lang/IndexOutOfBoundsException" ["java/lang/RuntimeException", "java/lang/Exception"]).filter goodWord)
def wsL_exit_r1 : List Cond := [Cond.classLink RL 13 "java/lang/IndexOutOfBoundsException", Cond.classLink RL 15 "java/lang/IllegalStateException", Cond.methodLink RL 62 yX2_exit, Cond.instanceMethod yX2_exit, Cond.selects RX2 yX2_exit yX2_exit, Cond.initialized RX2, Cond.code yX2_exit cX2_exit 7 (some .int), Cond.fieldLink RX2 76 "FutexKernel$Task" "state" "I", Cond.fieldLink RX2 89 "FutexKernel$Task" "held" "LFutexKernel$LockList;", Cond.fieldLink RX2 102 "FutexKernel$LockList" "size" "I", Cond.methodLink RX2 35 yX2_taskOf, Cond.instanceMethod yX2_taskOf, Cond.selects RX2 yX2_taskOf yX2_taskOf, Cond.code yX2_taskOf cX2_taskOf 2 (some (.object "FutexKernel$Task")), Cond.classLink RX2 105 "java/lang/IndexOutOfBoundsException", Cond.initialized "java/lang/IndexOutOfBoundsException", Cond.fieldLink RX2 15 "FutexKernel" "tasks" "[LFutexKernel$Task;", Cond.methodLink RX2 136 yX2_requireAlive, Cond.static yX2_requireAlive, Cond.code yX2_requireAlive cX2_requireAlive 1 none, Cond.classLink RX2 84 "java/lang/IllegalStateException", Cond.initialized "java/lang/IllegalStateException", Cond.methodLink RX2 126 yX1_isQueued, Cond.instanceMethod yX1_isQueued]
def wsL_exit_r2 : List Cond := [Cond.selects RX1 yX1_isQueued yX1_isQueued, Cond.initialized RX1, Cond.code yX1_isQueued cX1_isQueued 1 (some .boolean), Cond.fieldLink RX1 25 "FutexKernel$Task" "address" "I", Cond.methodLink RX2 139 yX2_leaveQueue, Cond.instanceMethod yX2_leaveQueue, Cond.selects RX2 yX2_leaveQueue yX2_leaveQueue, Cond.code yX2_leaveQueue cX2_leaveQueue 4 none, Cond.fieldLink RX2 156 "FutexKernel$Task" "address" "I", Cond.fieldLink RX2 166 "FutexKernel$Task" "deadline" "I", Cond.fieldLink RX2 9 "FutexKernel" "words" "[I", Cond.constant RX2 218 (2147483647), Cond.methodLink RX2 186 yX2_isAddress, Cond.static yX2_isAddress, Cond.code yX2_isAddress cX2_isAddress 1 (some .boolean), Cond.methodLink RX2 215 yX2_firstLockingAt, Cond.instanceMethod yX2_firstLockingAt, Cond.selects RX2 yX2_firstLockingAt yX2_firstLockingAt, Cond.code yX2_firstLockingAt cX2_firstLockingAt 2 (some (.object "FutexKernel$Task")), Cond.methodLink RX2 208 yX2_firstAt, Cond.instanceMethod yX2_firstAt, Cond.selects RX2 yX2_firstAt yX2_firstAt, Cond.code yX2_firstAt cX2_firstAt 10 (some (.object "FutexKernel$Task")), Cond.fieldLink RX2 205 "FutexKernel$Task" "mask" "I"]
def wsL_exit_r3 : List Cond := [Cond.methodLink RX2 201 yX1_isAheadOf, Cond.instanceMethod yX1_isAheadOf, Cond.selects RX1 yX1_isAheadOf yX1_isAheadOf, Cond.code yX1_isAheadOf cX1_isAheadOf 2 (some .boolean), Cond.fieldLink RX1 22 "FutexKernel$Task" "priority" "I", Cond.fieldLink RX1 37 "FutexKernel$Task" "joined" "I", Cond.methodLink RX2 110 yX0_addressAt, Cond.instanceMethod yX0_addressAt, Cond.selects RX0 yX0_addressAt yX0_addressAt, Cond.initialized RX0, Cond.code yX0_addressAt cX0_addressAt 2 (some .int), Cond.fieldLink RX0 15 "FutexKernel$LockList" "size" "I", Cond.fieldLink RX0 9 "FutexKernel$LockList" "addresses" "[I", Cond.methodLink RX2 73 yX2_ownerAt, Cond.instanceMethod yX2_ownerAt, Cond.selects RX2 yX2_ownerAt yX2_ownerAt, Cond.code yX2_ownerAt cX2_ownerAt 3 (some (.object "FutexKernel$Task")), Cond.methodLink RX2 98 yX2_passOn, Cond.instanceMethod yX2_passOn, Cond.selects RX2 yX2_passOn yX2_passOn, Cond.code yX2_passOn cX2_passOn 5 (some .int), Cond.constant RX2 68 (1073741824), Cond.fieldLink RX2 173 "FutexKernel$Task" "number" "I", Cond.methodLink RX2 132 yX2_endWait]
def wsL_exit_r4 : List Cond := [Cond.instanceMethod yX2_endWait, Cond.selects RX2 yX2_endWait yX2_endWait, Cond.code yX2_endWait cX2_endWait 3 none, Cond.fieldLink RX2 150 "FutexKernel$Task" "result" "I", Cond.fieldLink RX2 23 "FutexKernel" "endedWaits" "I", Cond.fieldLink RX2 153 "FutexKernel$Task" "serial" "I", Cond.methodLink RX2 69 yX2_giveLock, Cond.instanceMethod yX2_giveLock, Cond.selects RX2 yX2_giveLock yX2_giveLock, Cond.code yX2_giveLock cX2_giveLock 5 none, Cond.constant RX2 83 (-2147483648), Cond.methodLink RX2 222 yX0_add, Cond.instanceMethod yX0_add, Cond.selects RX0 yX0_add yX0_add, Cond.code yX0_add cX0_add 2 none, Cond.methodLink RX0 19 yX0_placeOf, Cond.instanceMethod yX0_placeOf, Cond.selects RX0 yX0_placeOf yX0_placeOf, Cond.code yX0_placeOf cX0_placeOf 3 (some .int), Cond.methodLink RX2 142 yX0_clear, Cond.instanceMethod yX0_clear, Cond.selects RX0 yX0_clear yX0_clear, Cond.code yX0_clear cX0_clear 1 none]
def wsL_exit : List Cond := .codeWith yL_exit cL_exit 4 (some .int) [(0, 9, 12, 13), (0, 9, 15, 15)] :: ((wsL_exit_r1 ++ (wsL_exit_r2 ++ (wsL_exit_r3 ++ wsL_exit_r4))) ++ wsX10 ++ wsX00 ++ wsX20 ++ (vx_atS RX2 109 "java/lang/IndexOutOfBoundsException" ["java/lang/RuntimeException", "java/lang/Exception"]).filter goodWord ++ (vx_atS RX2 88 "java/lang/IllegalStateException" ["java/lang/RuntimeException", "java/lang/Exception"]).filter goodWord)
def wsL_start : List Cond := .codeWith yL_start cL_start 3 (some .int) [(0, 5, 8, 13), (0, 5, 11, 15)] :: ([.classLink RL 13 "java/lang/IndexOutOfBoundsException", .classLink RL 15 "java/lang/IllegalStateException", .methodLink RL 65 yX2_start, .instanceMethod yX2_start, .selects RX2 yX2_start yX2_start, .initialized RX2, .code yX2_start cX2_start 3 none, .classLink RX2 84 "java/lang/IllegalStateException", .initialized "java/lang/IllegalStateException", .fieldLink RX2 76 "FutexKernel$Task" "state" "I", .fieldLink RX2 147 "FutexKernel$Task" "priority" "I", .fieldLink RX2 150 "FutexKernel$Task" "result" "I", .fieldLink RX2 153 "FutexKernel$Task" "serial" "I", .methodLink RX2 35 yX2_taskOf, .instanceMethod yX2_taskOf, .selects RX2 yX2_taskOf yX2_taskOf, .code yX2_taskOf cX2_taskOf 2 (some (.object "FutexKernel$Task")), .classLink RX2 105 "java/lang/IndexOutOfBoundsException", .initialized "java/lang/IndexOutOfBoundsException", .fieldLink RX2 15 "FutexKernel" "tasks" "[LFutexKernel$Task;"] ++ wsX10 ++ wsX20 ++ (vx_atS RX2 88 "java/lang/IllegalStateException" ["java/lang/RuntimeException", "java/lang/Exception"]).filter goodWord ++ (vx_atS RX2 109 "java/lang/IndexOutOfBoundsException" ["java/lang/RuntimeException", "java/lang/Exception"]).filter goodWord)
def wsL_setPriority_r1 : List Cond := [Cond.classLink RL 13 "java/lang/IndexOutOfBoundsException", Cond.classLink RL 32 "java/lang/IllegalArgumentException", Cond.classLink RL 15 "java/lang/IllegalStateException", Cond.methodLink RL 68 yX2_setPriority, Cond.instanceMethod yX2_setPriority, Cond.selects RX2 yX2_setPriority yX2_setPriority, Cond.initialized RX2, Cond.code yX2_setPriority cX2_setPriority 5 (some .int), Cond.fieldLink RX2 147 "FutexKernel$Task" "priority" "I", Cond.fieldLink RX2 156 "FutexKernel$Task" "address" "I", Cond.methodLink RX2 35 yX2_taskOf, Cond.instanceMethod yX2_taskOf, Cond.selects RX2 yX2_taskOf yX2_taskOf, Cond.code yX2_taskOf cX2_taskOf 2 (some (.object "FutexKernel$Task")), Cond.classLink RX2 105 "java/lang/IndexOutOfBoundsException", Cond.initialized "java/lang/IndexOutOfBoundsException", Cond.fieldLink RX2 15 "FutexKernel" "tasks" "[LFutexKernel$Task;", Cond.methodLink RX2 46 yX2_requireBetween, Cond.static yX2_requireBetween, Cond.code yX2_requireBetween cX2_requireBetween 3 none, Cond.classLink RX2 58 "java/lang/IllegalArgumentException", Cond.initialized "java/lang/IllegalArgumentException", Cond.methodLink RX2 136 yX2_requireAlive, Cond.static yX2_requireAlive]
def wsL_setPriority_r2 : List Cond := [Cond.code yX2_requireAlive cX2_requireAlive 1 none, Cond.classLink RX2 84 "java/lang/IllegalStateException", Cond.initialized "java/lang/IllegalStateException", Cond.fieldLink RX2 76 "FutexKernel$Task" "state" "I", Cond.methodLink RX2 126 yX1_isQueued, Cond.instanceMethod yX1_isQueued, Cond.selects RX1 yX1_isQueued yX1_isQueued, Cond.initialized RX1, Cond.code yX1_isQueued cX1_isQueued 1 (some .boolean), Cond.fieldLink RX1 25 "FutexKernel$Task" "address" "I", Cond.methodLink RX2 159 yX2_joinQueue, Cond.instanceMethod yX2_joinQueue, Cond.selects RX2 yX2_joinQueue yX2_joinQueue, Cond.code yX2_joinQueue cX2_joinQueue 3 none, Cond.fieldLink RX2 29 "FutexKernel" "joins" "I", Cond.fieldLink RX2 198 "FutexKernel$Task" "joined" "I"]
def wsL_setPriority : List Cond := .codeWith yL_setPriority cL_setPriority 5 (some .int) [(0, 10, 13, 13), (0, 10, 17, 32), (0, 10, 21, 15)] :: ((wsL_setPriority_r1 ++ wsL_setPriority_r2) ++ wsX10 ++ wsX20 ++ (vx_atS RX2 109 "java/lang/IndexOutOfBoundsException" ["java/lang/RuntimeException", "java/lang/Exception"]).filter goodWord ++ (vx_atS RX2 62 "java/lang/IllegalArgumentException" ["java/lang/RuntimeException", "java/lang/Exception"]).filter goodWord ++ (vx_atS RX2 88 "java/lang/IllegalStateException" ["java/lang/RuntimeException", "java/lang/Exception"]).filter goodWord)
def wsL_tick_r1 : List Cond := [Cond.classLink RL 32 "java/lang/IllegalArgumentException", Cond.methodLink RL 71 yX2_tick, Cond.instanceMethod yX2_tick, Cond.selects RX2 yX2_tick yX2_tick, Cond.initialized RX2, Cond.code yX2_tick cX2_tick 6 (some .int), Cond.fieldLink RX2 19 "FutexKernel" "time" "I", Cond.fieldLink RX2 166 "FutexKernel$Task" "deadline" "I", Cond.methodLink RX2 46 yX2_requireBetween, Cond.static yX2_requireBetween, Cond.code yX2_requireBetween cX2_requireBetween 3 none, Cond.classLink RX2 58 "java/lang/IllegalArgumentException", Cond.initialized "java/lang/IllegalArgumentException", Cond.methodLink RX2 162 yX2_firstToTimeOut, Cond.instanceMethod yX2_firstToTimeOut, Cond.selects RX2 yX2_firstToTimeOut yX2_firstToTimeOut, Cond.code yX2_firstToTimeOut cX2_firstToTimeOut 6 (some (.object "FutexKernel$Task")), Cond.fieldLink RX2 15 "FutexKernel" "tasks" "[LFutexKernel$Task;", Cond.methodLink RX2 219 yX1_timesOutBefore, Cond.instanceMethod yX1_timesOutBefore, Cond.selects RX1 yX1_timesOutBefore yX1_timesOutBefore, Cond.initialized RX1, Cond.code yX1_timesOutBefore cX1_timesOutBefore 2 (some .boolean), Cond.fieldLink RX1 31 "FutexKernel$Task" "deadline" "I"]
def wsL_tick_r2 : List Cond := [Cond.fieldLink RX1 34 "FutexKernel$Task" "begun" "I", Cond.methodLink RX2 132 yX2_endWait, Cond.instanceMethod yX2_endWait, Cond.selects RX2 yX2_endWait yX2_endWait, Cond.code yX2_endWait cX2_endWait 3 none, Cond.fieldLink RX2 150 "FutexKernel$Task" "result" "I", Cond.fieldLink RX2 23 "FutexKernel" "endedWaits" "I", Cond.fieldLink RX2 153 "FutexKernel$Task" "serial" "I", Cond.methodLink RX2 139 yX2_leaveQueue, Cond.instanceMethod yX2_leaveQueue, Cond.selects RX2 yX2_leaveQueue yX2_leaveQueue, Cond.code yX2_leaveQueue cX2_leaveQueue 4 none, Cond.fieldLink RX2 156 "FutexKernel$Task" "address" "I", Cond.fieldLink RX2 76 "FutexKernel$Task" "state" "I", Cond.fieldLink RX2 9 "FutexKernel" "words" "[I", Cond.constant RX2 218 (2147483647), Cond.methodLink RX2 186 yX2_isAddress, Cond.static yX2_isAddress, Cond.code yX2_isAddress cX2_isAddress 1 (some .boolean), Cond.methodLink RX2 215 yX2_firstLockingAt, Cond.instanceMethod yX2_firstLockingAt, Cond.selects RX2 yX2_firstLockingAt yX2_firstLockingAt, Cond.code yX2_firstLockingAt cX2_firstLockingAt 2 (some (.object "FutexKernel$Task")), Cond.methodLink RX2 208 yX2_firstAt]
def wsL_tick_r3 : List Cond := [Cond.instanceMethod yX2_firstAt, Cond.selects RX2 yX2_firstAt yX2_firstAt, Cond.code yX2_firstAt cX2_firstAt 10 (some (.object "FutexKernel$Task")), Cond.fieldLink RX2 205 "FutexKernel$Task" "mask" "I", Cond.methodLink RX2 201 yX1_isAheadOf, Cond.instanceMethod yX1_isAheadOf, Cond.selects RX1 yX1_isAheadOf yX1_isAheadOf, Cond.code yX1_isAheadOf cX1_isAheadOf 2 (some .boolean), Cond.fieldLink RX1 22 "FutexKernel$Task" "priority" "I", Cond.fieldLink RX1 37 "FutexKernel$Task" "joined" "I"]
def wsL_tick : List Cond := .codeWith yL_tick cL_tick 4 (some .int) [(0, 9, 12, 32)] :: ((wsL_tick_r1 ++ (wsL_tick_r2 ++ wsL_tick_r3)) ++ wsX20 ++ wsX10 ++ (vx_atS RX2 62 "java/lang/IllegalArgumentException" ["java/lang/RuntimeException", "java/lang/Exception"]).filter goodWord)
def wsL_stateOf : List Cond := .codeWith yL_stateOf cL_stateOf 4 (some .int) [(0, 9, 12, 13)] :: ([.classLink RL 13 "java/lang/IndexOutOfBoundsException", .methodLink RL 74 yX2_stateOf, .instanceMethod yX2_stateOf, .selects RX2 yX2_stateOf yX2_stateOf, .initialized RX2, .code yX2_stateOf cX2_stateOf 2 (some .int), .fieldLink RX2 76 "FutexKernel$Task" "state" "I", .methodLink RX2 35 yX2_taskOf, .instanceMethod yX2_taskOf, .selects RX2 yX2_taskOf yX2_taskOf, .code yX2_taskOf cX2_taskOf 2 (some (.object "FutexKernel$Task")), .classLink RX2 105 "java/lang/IndexOutOfBoundsException", .initialized "java/lang/IndexOutOfBoundsException", .fieldLink RX2 15 "FutexKernel" "tasks" "[LFutexKernel$Task;"] ++ wsX10 ++ wsX20 ++ (vx_atS RX2 109 "java/lang/IndexOutOfBoundsException" ["java/lang/RuntimeException", "java/lang/Exception"]).filter goodWord)
def wsL_addressOf : List Cond := .codeWith yL_addressOf cL_addressOf 4 (some .int) [(0, 9, 12, 13)] :: ([.classLink RL 13 "java/lang/IndexOutOfBoundsException", .methodLink RL 77 yX2_addressOf, .instanceMethod yX2_addressOf, .selects RX2 yX2_addressOf yX2_addressOf, .initialized RX2, .code yX2_addressOf cX2_addressOf 2 (some .int), .fieldLink RX2 156 "FutexKernel$Task" "address" "I", .methodLink RX2 35 yX2_taskOf, .instanceMethod yX2_taskOf, .selects RX2 yX2_taskOf yX2_taskOf, .code yX2_taskOf cX2_taskOf 2 (some (.object "FutexKernel$Task")), .classLink RX2 105 "java/lang/IndexOutOfBoundsException", .initialized "java/lang/IndexOutOfBoundsException", .fieldLink RX2 15 "FutexKernel" "tasks" "[LFutexKernel$Task;"] ++ wsX10 ++ wsX20 ++ (vx_atS RX2 109 "java/lang/IndexOutOfBoundsException" ["java/lang/RuntimeException", "java/lang/Exception"]).filter goodWord)
def wsL_resultOf : List Cond := .codeWith yL_resultOf cL_resultOf 4 (some .int) [(0, 9, 12, 13)] :: ([.classLink RL 13 "java/lang/IndexOutOfBoundsException", .methodLink RL 80 yX2_resultOf, .instanceMethod yX2_resultOf, .selects RX2 yX2_resultOf yX2_resultOf, .initialized RX2, .code yX2_resultOf cX2_resultOf 2 (some .int), .fieldLink RX2 150 "FutexKernel$Task" "result" "I", .methodLink RX2 35 yX2_taskOf, .instanceMethod yX2_taskOf, .selects RX2 yX2_taskOf yX2_taskOf, .code yX2_taskOf cX2_taskOf 2 (some (.object "FutexKernel$Task")), .classLink RX2 105 "java/lang/IndexOutOfBoundsException", .initialized "java/lang/IndexOutOfBoundsException", .fieldLink RX2 15 "FutexKernel" "tasks" "[LFutexKernel$Task;"] ++ wsX10 ++ wsX20 ++ (vx_atS RX2 109 "java/lang/IndexOutOfBoundsException" ["java/lang/RuntimeException", "java/lang/Exception"]).filter goodWord)
def wsL_serialOf : List Cond := .codeWith yL_serialOf cL_serialOf 4 (some .int) [(0, 9, 12, 13)] :: ([.classLink RL 13 "java/lang/IndexOutOfBoundsException", .methodLink RL 83 yX2_serialOf, .instanceMethod yX2_serialOf, .selects RX2 yX2_serialOf yX2_serialOf, .initialized RX2, .code yX2_serialOf cX2_serialOf 2 (some .int), .fieldLink RX2 153 "FutexKernel$Task" "serial" "I", .methodLink RX2 35 yX2_taskOf, .instanceMethod yX2_taskOf, .selects RX2 yX2_taskOf yX2_taskOf, .code yX2_taskOf cX2_taskOf 2 (some (.object "FutexKernel$Task")), .classLink RX2 105 "java/lang/IndexOutOfBoundsException", .initialized "java/lang/IndexOutOfBoundsException", .fieldLink RX2 15 "FutexKernel" "tasks" "[LFutexKernel$Task;"] ++ wsX10 ++ wsX20 ++ (vx_atS RX2 109 "java/lang/IndexOutOfBoundsException" ["java/lang/RuntimeException", "java/lang/Exception"]).filter goodWord)
def wsL_waiters : List Cond := .codeWith yL_waiters cL_waiters 4 (some .int) [(0, 9, 12, 13)] :: ([.classLink RL 13 "java/lang/IndexOutOfBoundsException", .methodLink RL 86 yX2_waiters, .instanceMethod yX2_waiters, .selects RX2 yX2_waiters yX2_waiters, .initialized RX2, .code yX2_waiters cX2_waiters 7 (some .int), .fieldLink RX2 15 "FutexKernel" "tasks" "[LFutexKernel$Task;", .fieldLink RX2 156 "FutexKernel$Task" "address" "I", .methodLink RX2 39 yX2_requireAddress, .static yX2_requireAddress, .code yX2_requireAddress cX2_requireAddress 1 none, .classLink RX2 105 "java/lang/IndexOutOfBoundsException", .initialized "java/lang/IndexOutOfBoundsException", .methodLink RX2 186 yX2_isAddress, .static yX2_isAddress, .code yX2_isAddress cX2_isAddress 1 (some .boolean)] ++ wsX20 ++ wsX10 ++ (vx_atS RX2 109 "java/lang/IndexOutOfBoundsException" ["java/lang/RuntimeException", "java/lang/Exception"]).filter goodWord)
def wsL_waiterAt_r1 : List Cond := [Cond.classLink RL 13 "java/lang/IndexOutOfBoundsException", Cond.methodLink RL 89 yX2_waiterAt, Cond.instanceMethod yX2_waiterAt, Cond.selects RX2 yX2_waiterAt yX2_waiterAt, Cond.initialized RX2, Cond.code yX2_waiterAt cX2_waiterAt 7 (some .int), Cond.classLink RX2 105 "java/lang/IndexOutOfBoundsException", Cond.initialized "java/lang/IndexOutOfBoundsException", Cond.fieldLink RX2 15 "FutexKernel" "tasks" "[LFutexKernel$Task;", Cond.fieldLink RX2 156 "FutexKernel$Task" "address" "I", Cond.fieldLink RX2 173 "FutexKernel$Task" "number" "I", Cond.methodLink RX2 39 yX2_requireAddress, Cond.static yX2_requireAddress, Cond.code yX2_requireAddress cX2_requireAddress 1 none, Cond.methodLink RX2 186 yX2_isAddress, Cond.static yX2_isAddress, Cond.code yX2_isAddress cX2_isAddress 1 (some .boolean), Cond.methodLink RX2 169 yX2_countAheadAtAddress, Cond.instanceMethod yX2_countAheadAtAddress, Cond.selects RX2 yX2_countAheadAtAddress yX2_countAheadAtAddress, Cond.code yX2_countAheadAtAddress cX2_countAheadAtAddress 7 (some .int), Cond.methodLink RX2 201 yX1_isAheadOf, Cond.instanceMethod yX1_isAheadOf, Cond.selects RX1 yX1_isAheadOf yX1_isAheadOf]
def wsL_waiterAt_r2 : List Cond := [Cond.initialized RX1, Cond.code yX1_isAheadOf cX1_isAheadOf 2 (some .boolean), Cond.fieldLink RX1 22 "FutexKernel$Task" "priority" "I", Cond.fieldLink RX1 37 "FutexKernel$Task" "joined" "I"]
def wsL_waiterAt : List Cond := .codeWith yL_waiterAt cL_waiterAt 5 (some .int) [(0, 10, 13, 13)] :: ((wsL_waiterAt_r1 ++ wsL_waiterAt_r2) ++ wsX20 ++ wsX10 ++ (vx_atS RX2 109 "java/lang/IndexOutOfBoundsException" ["java/lang/RuntimeException", "java/lang/Exception"]).filter goodWord)
def wsL_queueAt_r1 : List Cond := [Cond.classLink RL 13 "java/lang/IndexOutOfBoundsException", Cond.methodLink RL 92 yX2_queueAt, Cond.instanceMethod yX2_queueAt, Cond.selects RX2 yX2_queueAt yX2_queueAt, Cond.initialized RX2, Cond.code yX2_queueAt cX2_queueAt 7 (some .int), Cond.classLink RX2 105 "java/lang/IndexOutOfBoundsException", Cond.initialized "java/lang/IndexOutOfBoundsException", Cond.fieldLink RX2 15 "FutexKernel" "tasks" "[LFutexKernel$Task;", Cond.fieldLink RX2 156 "FutexKernel$Task" "address" "I", Cond.fieldLink RX2 173 "FutexKernel$Task" "number" "I", Cond.methodLink RX2 126 yX1_isQueued, Cond.instanceMethod yX1_isQueued, Cond.selects RX1 yX1_isQueued yX1_isQueued, Cond.initialized RX1, Cond.code yX1_isQueued cX1_isQueued 1 (some .boolean), Cond.fieldLink RX1 25 "FutexKernel$Task" "address" "I", Cond.methodLink RX2 178 yX2_bucketOf, Cond.static yX2_bucketOf, Cond.code yX2_bucketOf cX2_bucketOf 1 (some .int), Cond.methodLink RX2 181 yX2_countAheadInBucket, Cond.instanceMethod yX2_countAheadInBucket, Cond.selects RX2 yX2_countAheadInBucket yX2_countAheadInBucket, Cond.code yX2_countAheadInBucket cX2_countAheadInBucket 7 (some .int)]
def wsL_queueAt_r2 : List Cond := [Cond.methodLink RX2 201 yX1_isAheadOf, Cond.instanceMethod yX1_isAheadOf, Cond.selects RX1 yX1_isAheadOf yX1_isAheadOf, Cond.code yX1_isAheadOf cX1_isAheadOf 2 (some .boolean), Cond.fieldLink RX1 22 "FutexKernel$Task" "priority" "I", Cond.fieldLink RX1 37 "FutexKernel$Task" "joined" "I"]
def wsL_queueAt : List Cond := .codeWith yL_queueAt cL_queueAt 5 (some .int) [(0, 10, 13, 13)] :: ((wsL_queueAt_r1 ++ wsL_queueAt_r2) ++ wsX20 ++ wsX10 ++ (vx_atS RX2 109 "java/lang/IndexOutOfBoundsException" ["java/lang/RuntimeException", "java/lang/Exception"]).filter goodWord)
def wsL_law0_r1 : List Cond := [Cond.classLink RL 8 RX2, Cond.instantiable RX2 6, Cond.initialized RX2, Cond.classLink RL 96 RX3, Cond.instantiable RX3 17, Cond.initialized RX3, Cond.arrayClass .long, Cond.methodLink RL 95 yX2_init, Cond.instanceMethod yX2_init, Cond.code yX2_init cX2_init 2 none, Cond.methodLink RX2 1 objectInit, Cond.instanceMethod objectInit, Cond.code objectInit ⟨#[0xb1]⟩ 1 none, Cond.arrayClass .int, Cond.fieldLink RX2 9 "FutexKernel" "words" "[I", Cond.classLink RX2 13 RX1, Cond.fieldLink RX2 15 "FutexKernel" "tasks" "[LFutexKernel$Task;", Cond.fieldLink RX2 19 "FutexKernel" "time" "I", Cond.fieldLink RX2 23 "FutexKernel" "endedWaits" "I", Cond.fieldLink RX2 26 "FutexKernel" "begunWaits" "I", Cond.fieldLink RX2 29 "FutexKernel" "joins" "I", Cond.instantiable RX1 11, Cond.initialized RX1, Cond.methodLink RX2 32 yX1_init]
def wsL_law0_r2 : List Cond := [Cond.instanceMethod yX1_init, Cond.code yX1_init cX1_init 2 none, Cond.methodLink RX1 3 objectInit, Cond.classLink RX1 9 RX0, Cond.instantiable RX0 2, Cond.initialized RX0, Cond.fieldLink RX1 12 "FutexKernel$Task" "held" "LFutexKernel$LockList;", Cond.fieldLink RX1 18 "FutexKernel$Task" "state" "I", Cond.fieldLink RX1 22 "FutexKernel$Task" "priority" "I", Cond.fieldLink RX1 25 "FutexKernel$Task" "address" "I", Cond.fieldLink RX1 28 "FutexKernel$Task" "mask" "I", Cond.fieldLink RX1 31 "FutexKernel$Task" "deadline" "I", Cond.fieldLink RX1 34 "FutexKernel$Task" "begun" "I", Cond.fieldLink RX1 37 "FutexKernel$Task" "joined" "I", Cond.fieldLink RX1 40 "FutexKernel$Task" "result" "I", Cond.fieldLink RX1 43 "FutexKernel$Task" "serial" "I", Cond.fieldLink RX1 46 "FutexKernel$Task" "number" "I", Cond.instanceMethod yX0_init, Cond.code yX0_init cX0_init 1 none, Cond.methodLink RX0 3 objectInit, Cond.fieldLink RX0 9 "FutexKernel$LockList" "addresses" "[I", Cond.fieldLink RX0 15 "FutexKernel$LockList" "size" "I", Cond.methodLink RL 98 yX3_init, Cond.instanceMethod yX3_init]
def wsL_law0_r3 : List Cond := [Cond.code yX3_init cX3_init 2 none, Cond.methodLink RX3 1 objectInit, Cond.fieldLink RX3 7 "FutexKernelModel" "word" "[I", Cond.fieldLink RX3 13 "FutexKernelModel" "state" "[I", Cond.fieldLink RX3 16 "FutexKernelModel" "priority" "[I", Cond.fieldLink RX3 19 "FutexKernelModel" "result" "[I", Cond.fieldLink RX3 22 "FutexKernelModel" "serial" "[I", Cond.fieldLink RX3 25 "FutexKernelModel" "at" "[I", Cond.fieldLink RX3 28 "FutexKernelModel" "mask" "[I", Cond.fieldLink RX3 31 "FutexKernelModel" "deadline" "[I", Cond.fieldLink RX3 34 "FutexKernelModel" "began" "[I", Cond.fieldLink RX3 37 "FutexKernelModel" "joined" "[I", Cond.fieldLink RX3 40 "FutexKernelModel" "many" "[I", Cond.fieldLink RX3 43 "FutexKernelModel" "list" "[I", Cond.methodLink RL 99 yL_store, Cond.static yL_store, Cond.initialized RL, Cond.codeWith yL_store cL_store 6 (some .int) [(0, 12, 15, 13), (0, 12, 19, 15)], Cond.classLink RL 13 "java/lang/IndexOutOfBoundsException", Cond.classLink RL 15 "java/lang/IllegalStateException", Cond.methodLink RL 7 yX2_store, Cond.instanceMethod yX2_store, Cond.selects RX2 yX2_store yX2_store, Cond.code yX2_store cX2_store 6 (some .int)]
def wsL_law0_r4 : List Cond := [Cond.methodLink RX2 35 yX2_taskOf, Cond.instanceMethod yX2_taskOf, Cond.selects RX2 yX2_taskOf yX2_taskOf, Cond.code yX2_taskOf cX2_taskOf 2 (some (.object "FutexKernel$Task")), Cond.classLink RX2 105 "java/lang/IndexOutOfBoundsException", Cond.initialized "java/lang/IndexOutOfBoundsException", Cond.methodLink RX2 39 yX2_requireAddress, Cond.static yX2_requireAddress, Cond.code yX2_requireAddress cX2_requireAddress 1 none, Cond.methodLink RX2 186 yX2_isAddress, Cond.static yX2_isAddress, Cond.code yX2_isAddress cX2_isAddress 1 (some .boolean), Cond.methodLink RX2 42 yX2_requireRunning, Cond.static yX2_requireRunning, Cond.code yX2_requireRunning cX2_requireRunning 1 none, Cond.classLink RX2 84 "java/lang/IllegalStateException", Cond.initialized "java/lang/IllegalStateException", Cond.fieldLink RX2 76 "FutexKernel$Task" "state" "I", Cond.methodLink RL 104 yX3_store, Cond.instanceMethod yX3_store, Cond.selects RX3 yX3_store yX3_store, Cond.code yX3_store cX3_store 5 (some .int), Cond.methodLink RX3 89 yX3_asksRunning, Cond.instanceMethod yX3_asksRunning]
def wsL_law0_r5 : List Cond := [Cond.selects RX3 yX3_asksRunning yX3_asksRunning, Cond.code yX3_asksRunning cX3_asksRunning 5 (some .boolean), Cond.fieldLink RX3 46 "FutexKernelModel" "thrown" "I", Cond.methodLink RX3 83 yX3_isThread, Cond.static yX3_isThread, Cond.code yX3_isThread cX3_isThread 1 (some .boolean), Cond.methodLink RX3 86 yX3_isAddress, Cond.static yX3_isAddress, Cond.code yX3_isAddress cX3_isAddress 1 (some .boolean), Cond.methodLink RL 105 yX3_thrown, Cond.instanceMethod yX3_thrown, Cond.selects RX3 yX3_thrown yX3_thrown, Cond.code yX3_thrown cX3_thrown 1 (some .int), Cond.methodLink RL 109 yL_compareAndSet, Cond.static yL_compareAndSet, Cond.codeWith yL_compareAndSet cL_compareAndSet 7 (some .int) [(0, 21, 24, 13), (0, 21, 28, 15)], Cond.methodLink RL 17 yX2_compareAndSet, Cond.instanceMethod yX2_compareAndSet, Cond.selects RX2 yX2_compareAndSet yX2_compareAndSet, Cond.code yX2_compareAndSet cX2_compareAndSet 6 (some .boolean), Cond.methodLink RL 112 yX3_compareAndSet, Cond.instanceMethod yX3_compareAndSet, Cond.selects RX3 yX3_compareAndSet yX3_compareAndSet, Cond.code yX3_compareAndSet cX3_compareAndSet 5 (some .boolean)]
def wsL_law0_r6 : List Cond := [Cond.methodLink RL 113 yL_fetchAdd, Cond.static yL_fetchAdd, Cond.codeWith yL_fetchAdd cL_fetchAdd 6 (some .int) [(0, 12, 15, 13), (0, 12, 19, 15)], Cond.methodLink RL 21 yX2_fetchAdd, Cond.instanceMethod yX2_fetchAdd, Cond.selects RX2 yX2_fetchAdd yX2_fetchAdd, Cond.code yX2_fetchAdd cX2_fetchAdd 6 (some .int), Cond.methodLink RL 115 yX3_fetchAdd, Cond.instanceMethod yX3_fetchAdd, Cond.selects RX3 yX3_fetchAdd yX3_fetchAdd, Cond.code yX3_fetchAdd cX3_fetchAdd 5 (some .int), Cond.methodLink RL 116 yL_word, Cond.static yL_word, Cond.codeWith yL_word cL_word 4 (some .int) [(0, 9, 12, 13)], Cond.methodLink RL 24 yX2_word, Cond.instanceMethod yX2_word, Cond.selects RX2 yX2_word yX2_word, Cond.code yX2_word cX2_word 2 (some .int), Cond.methodLink RL 119 yX3_word, Cond.instanceMethod yX3_word, Cond.selects RX3 yX3_word yX3_word, Cond.code yX3_word cX3_word 2 (some .int), Cond.methodLink RX3 93 yX3_asks, Cond.instanceMethod yX3_asks]
def wsL_law0_r7 : List Cond := [Cond.selects RX3 yX3_asks yX3_asks, Cond.code yX3_asks cX3_asks 2 (some .boolean), Cond.methodLink RL 120 yL_await, Cond.static yL_await, Cond.codeWith yL_await cL_await 8 (some .int) [(0, 23, 26, 13), (0, 23, 30, 32), (0, 23, 34, 15)], Cond.classLink RL 32 "java/lang/IllegalArgumentException", Cond.methodLink RL 28 yX2_await, Cond.instanceMethod yX2_await, Cond.selects RX2 yX2_await yX2_await, Cond.code yX2_await cX2_await 7 (some .boolean), Cond.methodLink RX2 46 yX2_requireBetween, Cond.static yX2_requireBetween, Cond.code yX2_requireBetween cX2_requireBetween 3 none, Cond.classLink RX2 58 "java/lang/IllegalArgumentException", Cond.initialized "java/lang/IllegalArgumentException", Cond.methodLink RX2 50 yX2_beginWait, Cond.instanceMethod yX2_beginWait, Cond.selects RX2 yX2_beginWait yX2_beginWait, Cond.code yX2_beginWait cX2_beginWait 6 none, Cond.fieldLink RX2 205 "FutexKernel$Task" "mask" "I", Cond.fieldLink RX2 166 "FutexKernel$Task" "deadline" "I", Cond.fieldLink RX2 212 "FutexKernel$Task" "begun" "I", Cond.methodLink RX2 159 yX2_joinQueue, Cond.instanceMethod yX2_joinQueue]
def wsL_law0_r8 : List Cond := [Cond.selects RX2 yX2_joinQueue yX2_joinQueue, Cond.code yX2_joinQueue cX2_joinQueue 3 none, Cond.fieldLink RX2 156 "FutexKernel$Task" "address" "I", Cond.fieldLink RX2 198 "FutexKernel$Task" "joined" "I", Cond.methodLink RL 123 yX3_await, Cond.instanceMethod yX3_await, Cond.selects RX3 yX3_await yX3_await, Cond.code yX3_await cX3_await 6 (some .boolean), Cond.methodLink RX3 97 yX3_isMask, Cond.static yX3_isMask, Cond.code yX3_isMask cX3_isMask 1 (some .boolean), Cond.methodLink RX3 100 yX3_isTimeout, Cond.static yX3_isTimeout, Cond.code yX3_isTimeout cX3_isTimeout 1 (some .boolean), Cond.methodLink RX3 103 yX3_waits, Cond.instanceMethod yX3_waits, Cond.selects RX3 yX3_waits yX3_waits, Cond.code yX3_waits cX3_waits 6 none, Cond.fieldLink RX3 75 "FutexKernelModel" "time" "I", Cond.fieldLink RX3 78 "FutexKernelModel" "begins" "I", Cond.methodLink RX3 81 yX3_joins, Cond.instanceMethod yX3_joins, Cond.selects RX3 yX3_joins yX3_joins, Cond.code yX3_joins cX3_joins 3 none]
def wsL_law0_r9 : List Cond := [Cond.fieldLink RX3 60 "FutexKernelModel" "joins" "I", Cond.methodLink RL 124 yL_wake, Cond.static yL_wake, Cond.codeWith yL_wake cL_wake 7 (some .int) [(0, 14, 17, 13), (0, 14, 21, 32), (0, 14, 25, 15)], Cond.methodLink RL 34 yX2_wake, Cond.instanceMethod yX2_wake, Cond.selects RX2 yX2_wake yX2_wake, Cond.code yX2_wake cX2_wake 6 (some .int), Cond.methodLink RX2 54 yX2_wakeFirst, Cond.instanceMethod yX2_wakeFirst, Cond.selects RX2 yX2_wakeFirst yX2_wakeFirst, Cond.code yX2_wakeFirst cX2_wakeFirst 6 (some .int), Cond.methodLink RX2 208 yX2_firstAt, Cond.instanceMethod yX2_firstAt, Cond.selects RX2 yX2_firstAt yX2_firstAt, Cond.code yX2_firstAt cX2_firstAt 10 (some (.object "FutexKernel$Task")), Cond.methodLink RX2 201 yX1_isAheadOf, Cond.instanceMethod yX1_isAheadOf, Cond.selects RX1 yX1_isAheadOf yX1_isAheadOf, Cond.code yX1_isAheadOf cX1_isAheadOf 2 (some .boolean), Cond.methodLink RX2 132 yX2_endWait, Cond.instanceMethod yX2_endWait, Cond.selects RX2 yX2_endWait yX2_endWait, Cond.code yX2_endWait cX2_endWait 3 none]
def wsL_law0_r10 : List Cond := [Cond.fieldLink RX2 150 "FutexKernel$Task" "result" "I", Cond.fieldLink RX2 153 "FutexKernel$Task" "serial" "I", Cond.methodLink RX2 139 yX2_leaveQueue, Cond.instanceMethod yX2_leaveQueue, Cond.selects RX2 yX2_leaveQueue yX2_leaveQueue, Cond.code yX2_leaveQueue cX2_leaveQueue 4 none, Cond.constant RX2 218 (2147483647), Cond.methodLink RX2 215 yX2_firstLockingAt, Cond.instanceMethod yX2_firstLockingAt, Cond.selects RX2 yX2_firstLockingAt yX2_firstLockingAt, Cond.code yX2_firstLockingAt cX2_firstLockingAt 2 (some (.object "FutexKernel$Task")), Cond.methodLink RL 126 yX3_wake, Cond.instanceMethod yX3_wake, Cond.selects RX3 yX3_wake yX3_wake, Cond.code yX3_wake cX3_wake 5 (some .int), Cond.methodLink RX3 109 yX3_wakes, Cond.instanceMethod yX3_wakes, Cond.selects RX3 yX3_wakes yX3_wakes, Cond.code yX3_wakes cX3_wakes 6 (some .int), Cond.methodLink RX3 56 yX3_first, Cond.instanceMethod yX3_first, Cond.selects RX3 yX3_first yX3_first, Cond.code yX3_first cX3_first 7 (some .int), Cond.methodLink RX3 52 yX3_key]
def wsL_law0_r11 : List Cond := [Cond.instanceMethod yX3_key, Cond.selects RX3 yX3_key yX3_key, Cond.code yX3_key cX3_key 2 (some .long), Cond.constantLong RX3 50 (1000000000), Cond.methodLink RX3 107 yX3_ends, Cond.instanceMethod yX3_ends, Cond.selects RX3 yX3_ends yX3_ends, Cond.code yX3_ends cX3_ends 3 none, Cond.fieldLink RX3 72 "FutexKernelModel" "ends" "I", Cond.methodLink RX3 68 yX3_leaves, Cond.instanceMethod yX3_leaves, Cond.selects RX3 yX3_leaves yX3_leaves, Cond.code yX3_leaves cX3_leaves 4 none, Cond.constant RX3 67 (2147483647), Cond.methodLink RX3 63 yX3_isSomebodyLocking, Cond.instanceMethod yX3_isSomebodyLocking, Cond.selects RX3 yX3_isSomebodyLocking yX3_isSomebodyLocking, Cond.code yX3_isSomebodyLocking cX3_isSomebodyLocking 2 (some .boolean), Cond.methodLink RL 127 yL_requeue, Cond.static yL_requeue, Cond.codeWith yL_requeue cL_requeue 9 (some .int) [(0, 18, 21, 13), (0, 18, 25, 32), (0, 18, 29, 15)], Cond.methodLink RL 38 yX2_requeue, Cond.instanceMethod yX2_requeue, Cond.selects RX2 yX2_requeue yX2_requeue]
def wsL_law0_r12 : List Cond := [Cond.code yX2_requeue cX2_requeue 9 (some .int), Cond.methodLink RX2 65 yX2_moveFirst, Cond.instanceMethod yX2_moveFirst, Cond.selects RX2 yX2_moveFirst yX2_moveFirst, Cond.code yX2_moveFirst cX2_moveFirst 6 (some .int), Cond.methodLink RL 130 yX3_requeue, Cond.instanceMethod yX3_requeue, Cond.selects RX3 yX3_requeue yX3_requeue, Cond.code yX3_requeue cX3_requeue 10 (some .int), Cond.methodLink RX3 112 yX3_fails, Cond.instanceMethod yX3_fails, Cond.selects RX3 yX3_fails yX3_fails, Cond.code yX3_fails cX3_fails 2 (some .int), Cond.methodLink RL 131 yL_lock, Cond.static yL_lock, Cond.codeWith yL_lock cL_lock 6 (some .int) [(0, 12, 15, 13), (0, 12, 19, 32), (0, 12, 23, 15)], Cond.methodLink RL 42 yX2_lock, Cond.instanceMethod yX2_lock, Cond.selects RX2 yX2_lock yX2_lock, Cond.code yX2_lock cX2_lock 7 (some .int), Cond.constant RX2 68 (1073741824), Cond.constant RX2 83 (-2147483648), Cond.methodLink RX2 69 yX2_giveLock, Cond.instanceMethod yX2_giveLock]
def wsL_law0_r13 : List Cond := [Cond.selects RX2 yX2_giveLock yX2_giveLock, Cond.code yX2_giveLock cX2_giveLock 5 none, Cond.fieldLink RX2 173 "FutexKernel$Task" "number" "I", Cond.fieldLink RX2 89 "FutexKernel$Task" "held" "LFutexKernel$LockList;", Cond.methodLink RX2 222 yX0_add, Cond.instanceMethod yX0_add, Cond.selects RX0 yX0_add yX0_add, Cond.code yX0_add cX0_add 2 none, Cond.methodLink RX0 19 yX0_placeOf, Cond.instanceMethod yX0_placeOf, Cond.selects RX0 yX0_placeOf yX0_placeOf, Cond.code yX0_placeOf cX0_placeOf 3 (some .int), Cond.methodLink RX2 73 yX2_ownerAt, Cond.instanceMethod yX2_ownerAt, Cond.selects RX2 yX2_ownerAt yX2_ownerAt, Cond.code yX2_ownerAt cX2_ownerAt 3 (some (.object "FutexKernel$Task")), Cond.methodLink RX2 79 yX2_isHeldUpBy, Cond.instanceMethod yX2_isHeldUpBy, Cond.selects RX2 yX2_isHeldUpBy yX2_isHeldUpBy, Cond.code yX2_isHeldUpBy cX2_isHeldUpBy 5 (some .boolean), Cond.methodLink RL 133 yX3_lock, Cond.instanceMethod yX3_lock, Cond.selects RX3 yX3_lock yX3_lock, Cond.code yX3_lock cX3_lock 6 (some .int)]
def wsL_law0_r14 : List Cond := [Cond.constant RX3 120 (1073741824), Cond.constant RX3 121 (-2147483648), Cond.methodLink RX3 125 yX3_ownerOf, Cond.static yX3_ownerOf, Cond.code yX3_ownerOf cX3_ownerOf 1 (some .int), Cond.methodLink RX3 122 yX3_gets, Cond.instanceMethod yX3_gets, Cond.selects RX3 yX3_gets yX3_gets, Cond.code yX3_gets cX3_gets 3 none, Cond.methodLink RX3 116 yX3_place, Cond.instanceMethod yX3_place, Cond.selects RX3 yX3_place yX3_place, Cond.code yX3_place cX3_place 5 (some .int), Cond.methodLink RX3 128 yX3_isDeadlock, Cond.instanceMethod yX3_isDeadlock, Cond.selects RX3 yX3_isDeadlock yX3_isDeadlock, Cond.code yX3_isDeadlock cX3_isDeadlock 6 (some .boolean), Cond.methodLink RL 134 yL_unlock, Cond.static yL_unlock, Cond.codeWith yL_unlock cL_unlock 5 (some .int) [(0, 10, 13, 13), (0, 10, 17, 15)], Cond.methodLink RL 45 yX2_unlock, Cond.instanceMethod yX2_unlock, Cond.selects RX2 yX2_unlock yX2_unlock, Cond.code yX2_unlock cX2_unlock 4 (some .int)]
def wsL_law0_r15 : List Cond := [Cond.methodLink RX2 93 yX0_drop, Cond.instanceMethod yX0_drop, Cond.selects RX0 yX0_drop yX0_drop, Cond.code yX0_drop cX0_drop 4 none, Cond.methodLink RX2 98 yX2_passOn, Cond.instanceMethod yX2_passOn, Cond.selects RX2 yX2_passOn yX2_passOn, Cond.code yX2_passOn cX2_passOn 5 (some .int), Cond.methodLink RL 137 yX3_unlock, Cond.instanceMethod yX3_unlock, Cond.selects RX3 yX3_unlock yX3_unlock, Cond.code yX3_unlock cX3_unlock 3 (some .int), Cond.methodLink RX3 132 yX3_drops, Cond.instanceMethod yX3_drops, Cond.selects RX3 yX3_drops yX3_drops, Cond.code yX3_drops cX3_drops 4 none, Cond.methodLink RX3 135 yX3_passes, Cond.instanceMethod yX3_passes, Cond.selects RX3 yX3_passes yX3_passes, Cond.code yX3_passes cX3_passes 5 (some .int), Cond.methodLink RL 138 yL_locks, Cond.static yL_locks, Cond.codeWith yL_locks cL_locks 4 (some .int) [(0, 9, 12, 13)], Cond.methodLink RL 49 yX2_locks]
def wsL_law0_r16 : List Cond := [Cond.instanceMethod yX2_locks, Cond.selects RX2 yX2_locks yX2_locks, Cond.code yX2_locks cX2_locks 2 (some .int), Cond.fieldLink RX2 102 "FutexKernel$LockList" "size" "I", Cond.methodLink RL 140 yX3_locks, Cond.instanceMethod yX3_locks, Cond.selects RX3 yX3_locks yX3_locks, Cond.code yX3_locks cX3_locks 2 (some .int), Cond.methodLink RL 141 yL_lockAt, Cond.static yL_lockAt, Cond.codeWith yL_lockAt cL_lockAt 5 (some .int) [(0, 10, 13, 13)], Cond.methodLink RL 52 yX2_lockAt, Cond.instanceMethod yX2_lockAt, Cond.selects RX2 yX2_lockAt yX2_lockAt, Cond.code yX2_lockAt cX2_lockAt 4 (some .int), Cond.methodLink RX2 110 yX0_addressAt, Cond.instanceMethod yX0_addressAt, Cond.selects RX0 yX0_addressAt yX0_addressAt, Cond.code yX0_addressAt cX0_addressAt 2 (some .int), Cond.methodLink RL 143 yX3_lockAt, Cond.instanceMethod yX3_lockAt, Cond.selects RX3 yX3_lockAt yX3_lockAt, Cond.code yX3_lockAt cX3_lockAt 3 (some .int), Cond.methodLink RL 144 yL_blockedBy]
def wsL_law0_r17 : List Cond := [Cond.static yL_blockedBy, Cond.codeWith yL_blockedBy cL_blockedBy 4 (some .int) [(0, 9, 12, 13)], Cond.methodLink RL 55 yX2_blockedBy, Cond.instanceMethod yX2_blockedBy, Cond.selects RX2 yX2_blockedBy yX2_blockedBy, Cond.code yX2_blockedBy cX2_blockedBy 4 (some .int), Cond.methodLink RX2 114 yX1_bit, Cond.instanceMethod yX1_bit, Cond.selects RX1 yX1_bit yX1_bit, Cond.code yX1_bit cX1_bit 1 (some .int), Cond.methodLink RX2 118 yX2_blockedByOneOf, Cond.instanceMethod yX2_blockedByOneOf, Cond.selects RX2 yX2_blockedByOneOf yX2_blockedByOneOf, Cond.code yX2_blockedByOneOf cX2_blockedByOneOf 8 (some .int), Cond.methodLink RX2 121 yJ6_bitCount_0f7a4, Cond.static yJ6_bitCount_0f7a4, Cond.initialized RJ6, Cond.code yJ6_bitCount_0f7a4 cJ6_bitCount_0f7a4 1 (some .int), Cond.constant RJ6 265 (1431655765), Cond.constant RJ6 266 (858993459), Cond.constant RJ6 267 (252645135), Cond.methodLink RL 146 yX3_blockedBy, Cond.instanceMethod yX3_blockedBy, Cond.selects RX3 yX3_blockedBy yX3_blockedBy]
def wsL_law0_r18 : List Cond := [Cond.code yX3_blockedBy cX3_blockedBy 6 (some .int), Cond.methodLink RL 147 yL_interrupt, Cond.static yL_interrupt, Cond.codeWith yL_interrupt cL_interrupt 3 (some .int) [(0, 5, 8, 13), (0, 5, 11, 15)], Cond.methodLink RL 58 yX2_interrupt, Cond.instanceMethod yX2_interrupt, Cond.selects RX2 yX2_interrupt yX2_interrupt, Cond.code yX2_interrupt cX2_interrupt 3 none, Cond.methodLink RX2 126 yX1_isQueued, Cond.instanceMethod yX1_isQueued, Cond.selects RX1 yX1_isQueued yX1_isQueued, Cond.code yX1_isQueued cX1_isQueued 1 (some .boolean), Cond.methodLink RL 150 yX3_interrupt, Cond.instanceMethod yX3_interrupt, Cond.selects RX3 yX3_interrupt yX3_interrupt, Cond.code yX3_interrupt cX3_interrupt 2 none, Cond.methodLink RX3 139 yX3_isQueued, Cond.instanceMethod yX3_isQueued, Cond.selects RX3 yX3_isQueued yX3_isQueued, Cond.code yX3_isQueued cX3_isQueued 2 (some .boolean), Cond.methodLink RL 151 yL_exit, Cond.static yL_exit, Cond.codeWith yL_exit cL_exit 4 (some .int) [(0, 9, 12, 13), (0, 9, 15, 15)], Cond.methodLink RL 62 yX2_exit]
def wsL_law0_r19 : List Cond := [Cond.instanceMethod yX2_exit, Cond.selects RX2 yX2_exit yX2_exit, Cond.code yX2_exit cX2_exit 7 (some .int), Cond.methodLink RX2 136 yX2_requireAlive, Cond.static yX2_requireAlive, Cond.code yX2_requireAlive cX2_requireAlive 1 none, Cond.methodLink RX2 142 yX0_clear, Cond.instanceMethod yX0_clear, Cond.selects RX0 yX0_clear yX0_clear, Cond.code yX0_clear cX0_clear 1 none, Cond.methodLink RL 153 yX3_exit, Cond.instanceMethod yX3_exit, Cond.selects RX3 yX3_exit yX3_exit, Cond.code yX3_exit cX3_exit 5 (some .int), Cond.methodLink RL 154 yL_start, Cond.static yL_start, Cond.codeWith yL_start cL_start 3 (some .int) [(0, 5, 8, 13), (0, 5, 11, 15)], Cond.methodLink RL 65 yX2_start, Cond.instanceMethod yX2_start, Cond.selects RX2 yX2_start yX2_start, Cond.code yX2_start cX2_start 3 none, Cond.fieldLink RX2 147 "FutexKernel$Task" "priority" "I", Cond.methodLink RL 156 yX3_start, Cond.instanceMethod yX3_start]
def wsL_law0_r20 : List Cond := [Cond.selects RX3 yX3_start yX3_start, Cond.code yX3_start cX3_start 2 none, Cond.methodLink RL 157 yL_setPriority, Cond.static yL_setPriority, Cond.codeWith yL_setPriority cL_setPriority 5 (some .int) [(0, 10, 13, 13), (0, 10, 17, 32), (0, 10, 21, 15)], Cond.methodLink RL 68 yX2_setPriority, Cond.instanceMethod yX2_setPriority, Cond.selects RX2 yX2_setPriority yX2_setPriority, Cond.code yX2_setPriority cX2_setPriority 5 (some .int), Cond.methodLink RL 159 yX3_setPriority, Cond.instanceMethod yX3_setPriority, Cond.selects RX3 yX3_setPriority yX3_setPriority, Cond.code yX3_setPriority cX3_setPriority 4 (some .int), Cond.methodLink RL 160 yL_tick, Cond.static yL_tick, Cond.codeWith yL_tick cL_tick 4 (some .int) [(0, 9, 12, 32)], Cond.methodLink RL 71 yX2_tick, Cond.instanceMethod yX2_tick, Cond.selects RX2 yX2_tick yX2_tick, Cond.code yX2_tick cX2_tick 6 (some .int), Cond.methodLink RX2 162 yX2_firstToTimeOut, Cond.instanceMethod yX2_firstToTimeOut, Cond.selects RX2 yX2_firstToTimeOut yX2_firstToTimeOut, Cond.code yX2_firstToTimeOut cX2_firstToTimeOut 6 (some (.object "FutexKernel$Task"))]
def wsL_law0_r21 : List Cond := [Cond.methodLink RX2 219 yX1_timesOutBefore, Cond.instanceMethod yX1_timesOutBefore, Cond.selects RX1 yX1_timesOutBefore yX1_timesOutBefore, Cond.code yX1_timesOutBefore cX1_timesOutBefore 2 (some .boolean), Cond.methodLink RL 162 yX3_tick, Cond.instanceMethod yX3_tick, Cond.selects RX3 yX3_tick yX3_tick, Cond.code yX3_tick cX3_tick 5 (some .int), Cond.methodLink RX3 142 yX3_due, Cond.instanceMethod yX3_due, Cond.selects RX3 yX3_due yX3_due, Cond.code yX3_due cX3_due 3 (some .int), Cond.methodLink RL 163 yX2_now, Cond.instanceMethod yX2_now, Cond.selects RX2 yX2_now yX2_now, Cond.code yX2_now cX2_now 1 (some .int), Cond.methodLink RL 166 yX3_now, Cond.instanceMethod yX3_now, Cond.selects RX3 yX3_now yX3_now, Cond.code yX3_now cX3_now 1 (some .int), Cond.methodLink RL 167 yX2_nextTimeout, Cond.instanceMethod yX2_nextTimeout, Cond.selects RX2 yX2_nextTimeout yX2_nextTimeout, Cond.code yX2_nextTimeout cX2_nextTimeout 2 (some .int)]
def wsL_law0_r22 : List Cond := [Cond.methodLink RL 170 yX3_nextTimeout, Cond.instanceMethod yX3_nextTimeout, Cond.selects RX3 yX3_nextTimeout yX3_nextTimeout, Cond.code yX3_nextTimeout cX3_nextTimeout 4 (some .int), Cond.methodLink RL 171 yL_stateOf, Cond.static yL_stateOf, Cond.codeWith yL_stateOf cL_stateOf 4 (some .int) [(0, 9, 12, 13)], Cond.methodLink RL 74 yX2_stateOf, Cond.instanceMethod yX2_stateOf, Cond.selects RX2 yX2_stateOf yX2_stateOf, Cond.code yX2_stateOf cX2_stateOf 2 (some .int), Cond.methodLink RL 173 yX3_stateOf, Cond.instanceMethod yX3_stateOf, Cond.selects RX3 yX3_stateOf yX3_stateOf, Cond.code yX3_stateOf cX3_stateOf 2 (some .int), Cond.methodLink RL 174 yL_addressOf, Cond.static yL_addressOf, Cond.codeWith yL_addressOf cL_addressOf 4 (some .int) [(0, 9, 12, 13)], Cond.methodLink RL 77 yX2_addressOf, Cond.instanceMethod yX2_addressOf, Cond.selects RX2 yX2_addressOf yX2_addressOf, Cond.code yX2_addressOf cX2_addressOf 2 (some .int), Cond.methodLink RL 176 yX3_addressOf, Cond.instanceMethod yX3_addressOf]
def wsL_law0_r23 : List Cond := [Cond.selects RX3 yX3_addressOf yX3_addressOf, Cond.code yX3_addressOf cX3_addressOf 2 (some .int), Cond.methodLink RL 177 yL_resultOf, Cond.static yL_resultOf, Cond.codeWith yL_resultOf cL_resultOf 4 (some .int) [(0, 9, 12, 13)], Cond.methodLink RL 80 yX2_resultOf, Cond.instanceMethod yX2_resultOf, Cond.selects RX2 yX2_resultOf yX2_resultOf, Cond.code yX2_resultOf cX2_resultOf 2 (some .int), Cond.methodLink RL 179 yX3_resultOf, Cond.instanceMethod yX3_resultOf, Cond.selects RX3 yX3_resultOf yX3_resultOf, Cond.code yX3_resultOf cX3_resultOf 2 (some .int), Cond.methodLink RL 180 yL_serialOf, Cond.static yL_serialOf, Cond.codeWith yL_serialOf cL_serialOf 4 (some .int) [(0, 9, 12, 13)], Cond.methodLink RL 83 yX2_serialOf, Cond.instanceMethod yX2_serialOf, Cond.selects RX2 yX2_serialOf yX2_serialOf, Cond.code yX2_serialOf cX2_serialOf 2 (some .int), Cond.methodLink RL 182 yX3_serialOf, Cond.instanceMethod yX3_serialOf, Cond.selects RX3 yX3_serialOf yX3_serialOf, Cond.code yX3_serialOf cX3_serialOf 2 (some .int)]
def wsL_law0_r24 : List Cond := [Cond.methodLink RL 183 yL_waiters, Cond.static yL_waiters, Cond.codeWith yL_waiters cL_waiters 4 (some .int) [(0, 9, 12, 13)], Cond.methodLink RL 86 yX2_waiters, Cond.instanceMethod yX2_waiters, Cond.selects RX2 yX2_waiters yX2_waiters, Cond.code yX2_waiters cX2_waiters 7 (some .int), Cond.methodLink RL 185 yX3_waiters, Cond.instanceMethod yX3_waiters, Cond.selects RX3 yX3_waiters yX3_waiters, Cond.code yX3_waiters cX3_waiters 2 (some .int), Cond.methodLink RX3 146 yX3_countAt, Cond.instanceMethod yX3_countAt, Cond.selects RX3 yX3_countAt yX3_countAt, Cond.code yX3_countAt cX3_countAt 4 (some .int), Cond.methodLink RL 186 yL_waiterAt, Cond.static yL_waiterAt, Cond.codeWith yL_waiterAt cL_waiterAt 5 (some .int) [(0, 10, 13, 13)], Cond.methodLink RL 89 yX2_waiterAt, Cond.instanceMethod yX2_waiterAt, Cond.selects RX2 yX2_waiterAt yX2_waiterAt, Cond.code yX2_waiterAt cX2_waiterAt 7 (some .int), Cond.methodLink RX2 169 yX2_countAheadAtAddress, Cond.instanceMethod yX2_countAheadAtAddress]
def wsL_law0_r25 : List Cond := [Cond.selects RX2 yX2_countAheadAtAddress yX2_countAheadAtAddress, Cond.code yX2_countAheadAtAddress cX2_countAheadAtAddress 7 (some .int), Cond.methodLink RL 188 yX3_waiterAt, Cond.instanceMethod yX3_waiterAt, Cond.selects RX3 yX3_waiterAt yX3_waiterAt, Cond.code yX3_waiterAt cX3_waiterAt 3 (some .int), Cond.methodLink RX3 149 yX3_bucketOf, Cond.static yX3_bucketOf, Cond.code yX3_bucketOf cX3_bucketOf 1 (some .int), Cond.methodLink RX3 156 yX3_thread, Cond.instanceMethod yX3_thread, Cond.selects RX3 yX3_thread yX3_thread, Cond.code yX3_thread cX3_thread 8 (some .int), Cond.methodLink RX3 152 yX3_isIn, Cond.instanceMethod yX3_isIn, Cond.selects RX3 yX3_isIn yX3_isIn, Cond.code yX3_isIn cX3_isIn 4 (some .boolean), Cond.methodLink RL 189 yL_queueAt, Cond.static yL_queueAt, Cond.codeWith yL_queueAt cL_queueAt 5 (some .int) [(0, 10, 13, 13)], Cond.methodLink RL 92 yX2_queueAt, Cond.instanceMethod yX2_queueAt, Cond.selects RX2 yX2_queueAt yX2_queueAt, Cond.code yX2_queueAt cX2_queueAt 7 (some .int)]
def wsL_law0_r26 : List Cond := [Cond.methodLink RX2 178 yX2_bucketOf, Cond.static yX2_bucketOf, Cond.code yX2_bucketOf cX2_bucketOf 1 (some .int), Cond.methodLink RX2 181 yX2_countAheadInBucket, Cond.instanceMethod yX2_countAheadInBucket, Cond.selects RX2 yX2_countAheadInBucket yX2_countAheadInBucket, Cond.code yX2_countAheadInBucket cX2_countAheadInBucket 7 (some .int), Cond.methodLink RL 191 yX3_queueAt, Cond.instanceMethod yX3_queueAt, Cond.selects RX3 yX3_queueAt yX3_queueAt, Cond.code yX3_queueAt cX3_queueAt 3 (some .int)]
def wsL_law0 : List Cond := (wsL_law0_r1 ++ (wsL_law0_r2 ++ (wsL_law0_r3 ++ (wsL_law0_r4 ++ (wsL_law0_r5 ++ (wsL_law0_r6 ++ (wsL_law0_r7 ++ (wsL_law0_r8 ++ (wsL_law0_r9 ++ (wsL_law0_r10 ++ (wsL_law0_r11 ++ (wsL_law0_r12 ++ (wsL_law0_r13 ++ (wsL_law0_r14 ++ (wsL_law0_r15 ++ (wsL_law0_r16 ++ (wsL_law0_r17 ++ (wsL_law0_r18 ++ (wsL_law0_r19 ++ (wsL_law0_r20 ++ (wsL_law0_r21 ++ (wsL_law0_r22 ++ (wsL_law0_r23 ++ (wsL_law0_r24 ++ (wsL_law0_r25 ++ wsL_law0_r26))))))))))))))))))))))))) ++ wsX20 ++ wsX30 ++ wsX10 ++ wsX00 ++ ([] : List Cond)
def wsL_law : List Cond := wsL_law0 ++ (vx_atS RX2 109 "java/lang/IndexOutOfBoundsException" ["java/lang/RuntimeException", "java/lang/Exception"]).filter goodWord ++ (vx_atS RX2 88 "java/lang/IllegalStateException" ["java/lang/RuntimeException", "java/lang/Exception"]).filter goodWord ++ (vx_atS RX2 62 "java/lang/IllegalArgumentException" ["java/lang/RuntimeException", "java/lang/Exception"]).filter goodWord
abbrev vwCl : List vw_C := [(RX0, TX0, 2), (RX1, TX1, 11), (RX2, TX2, 6), (RX3, TX3, 17)]
end
section
/-! the numbers of a state: field f, place i. 0 words, 1 state, 2 priority, 3 address, 4 mask, 5 deadline, 6 begun, 7 joined, 8 result, 9 serial, 10 how many locks, 11 the lists of locks (16 a thread), 12 time, ends, begins, joins, thrown -/
abbrev fk_S : Type := Nat → Nat → Int32
def fk_up (S : fk_S) (f i : Nat) (v : Int32) : fk_S := fun a => if a = f then fun b => if b = i then v else S a b else S a
theorem fk_up_s (S : fk_S) (f i : Nat) (v : Int32) : fk_up S f i v f i = v := by simp [fk_up]
theorem fk_up_f {S : fk_S} {f i : Nat} {v : Int32} {a : Nat} (h : a ≠ f) : fk_up S f i v a = S a := by simp [fk_up, h]
theorem fk_up_i {S : fk_S} {f i : Nat} {v : Int32} {b : Nat} (h : b ≠ i) : fk_up S f i v f b = S f b := by simp [fk_up, h]
theorem fk_up_fun (S : fk_S) (f i : Nat) (v : Int32) : fk_up S f i v f = upd (S f) i v := by funext b; simp [fk_up, upd]
/-! the kernel's cells: itself, the words, the tasks' row, 8 tasks, 8 lists, 8 rows of the lists -/
def fk_fK (ad : Nat → Nat) (S : fk_S) : List Value := [.ref (ad 1), .ref (ad 2), .int (S 12 0), .int (S 12 1), .int (S 12 2), .int (S 12 3)]
def fk_fT (ad : Nat → Nat) (S : fk_S) (t : Nat) : List Value := [.int (nI t), .ref (ad (11 + t)), .int (S 1 t), .int (S 2 t), .int (S 3 t), .int (S 4 t), .int (S 5 t), .int (S 6 t), .int (S 7 t), .int (S 8 t), .int (S 9 t)]
def fk_fL (ad : Nat → Nat) (S : fk_S) (t : Nat) : List Value := [.ref (ad (19 + t)), .int (S 10 t)]
def fk_row (S : fk_S) (t : Nat) : Nat → Int32 := fun j => if j < 16 then S 11 (16 * t + j) else 0
def fk_kE (ad : Nat → Nat) (cI cT : ClassId) (S : fk_S) (k : Nat) : va_E :=
  if k = 0 then .inr (2, fk_fK ad S) else if k = 1 then .inl (cI, 16, .inl (S 0)) else if k = 2 then .inl (cT, 8, .inr (.inr (.inr (.inr (fun t => some (ad (3 + t))))))) else
  if k < 11 then .inr (1, fk_fT ad S (k - 3)) else if k < 19 then .inr (0, fk_fL ad S (k - 11)) else .inl (cI, 16, .inl (fk_row S (k - 19)))
def fk_kW (ad : Nat → Nat) (cI cT : ClassId) (S : fk_S) : va_W := (List.range 27).map (fun k => (ad k, fk_kE ad cI cT S k))
section
variable {ad : Nat → Nat} {cI cT : ClassId} {S : fk_S} {X : va_W} {t : Nat}
theorem fk_kAt {k : Nat} (h : k < 27) : (fk_kW ad cI cT S ++ X)[k]? = some (ad k, fk_kE ad cI cT S k) := by
  rw [List.getElem?_append_left (by simp [fk_kW, h])]
  simp [fk_kW, h]
theorem fk_atK : (fk_kW ad cI cT S ++ X)[0]? = some (ad 0, .inr (2, fk_fK ad S)) := fk_kAt (by decide)
theorem fk_atW : (fk_kW ad cI cT S ++ X)[1]? = some (ad 1, .inl (cI, 16, .inl (S 0))) := fk_kAt (by decide)
theorem fk_atA : (fk_kW ad cI cT S ++ X)[2]? = some (ad 2, .inl (cT, 8, .inr (.inr (.inr (.inr (fun t => some (ad (3 + t)))))))) := fk_kAt (by decide)
theorem fk_eT (h : t < 8) : fk_kE ad cI cT S (3 + t) = .inr (1, fk_fT ad S t) := by
  unfold fk_kE
  rw [if_neg (by omega), if_neg (by omega), if_neg (by omega), if_pos (by omega), Nat.add_sub_cancel_left]
theorem fk_eL (h : t < 8) : fk_kE ad cI cT S (11 + t) = .inr (0, fk_fL ad S t) := by
  unfold fk_kE
  rw [if_neg (by omega), if_neg (by omega), if_neg (by omega), if_neg (by omega), if_pos (by omega), Nat.add_sub_cancel_left]
theorem fk_eR (h : t < 8) : fk_kE ad cI cT S (19 + t) = .inl (cI, 16, .inl (fk_row S t)) := by
  unfold fk_kE
  rw [if_neg (by omega), if_neg (by omega), if_neg (by omega), if_neg (by omega), if_neg (by omega), Nat.add_sub_cancel_left]
theorem fk_atT (h : t < 8) : (fk_kW ad cI cT S ++ X)[3 + t]? = some (ad (3 + t), .inr (1, fk_fT ad S t)) := by rw [fk_kAt (by omega), fk_eT h]
theorem fk_atL (h : t < 8) : (fk_kW ad cI cT S ++ X)[11 + t]? = some (ad (11 + t), .inr (0, fk_fL ad S t)) := by rw [fk_kAt (by omega), fk_eL h]
theorem fk_atR (h : t < 8) : (fk_kW ad cI cT S ++ X)[19 + t]? = some (ad (19 + t), .inl (cI, 16, .inl (fk_row S t))) := by rw [fk_kAt (by omega), fk_eR h]
theorem fk_kSet {S' : fk_S} {k : Nat} {e : va_E} (h : k < 27) (he : e = fk_kE ad cI cT S' k) (ho : ∀ j, j < 27 → j ≠ k → fk_kE ad cI cT S' j = fk_kE ad cI cT S j) : (fk_kW ad cI cT S ++ X).set k (ad k, e) = fk_kW ad cI cT S' ++ X := by
  subst he
  apply List.ext_getElem?
  intro i
  by_cases hi : i = k
  · subst hi
    rw [List.getElem?_set_self (by simp [fk_kW]; omega), fk_kAt h]
  · rw [List.getElem?_set_ne (Ne.symm hi)]
    by_cases h27 : i < 27
    · rw [fk_kAt h27, fk_kAt h27, ho i h27 hi]
    · rw [List.getElem?_append_right (by simp [fk_kW]; omega), List.getElem?_append_right (by simp [fk_kW]; omega)]
      simp [fk_kW]
/-- what a write of one number changes of the cells -/
theorem fk_kOther {f i : Nat} {v : Int32} {k : Nat} (hk : (f = 0 ∧ k = 1) ∨ (1 ≤ f ∧ f ≤ 9 ∧ k = 3 + i) ∨ (f = 10 ∧ k = 11 + i) ∨ (f = 11 ∧ k = 19 + i / 16) ∨ (f = 12 ∧ k = 0)) {j : Nat} (hj : j < 27) (hne : j ≠ k) : fk_kE ad cI cT (fk_up S f i v) j = fk_kE ad cI cT S j := by
  unfold fk_kE
  by_cases h0 : j = 0
  · rw [if_pos h0, if_pos h0]
    unfold fk_fK
    rw [fk_up_f (a := 12) (by omega)]
  · rw [if_neg h0, if_neg h0]
    by_cases h1 : j = 1
    · rw [if_pos h1, if_pos h1, fk_up_f (a := 0) (by omega)]
    · rw [if_neg h1, if_neg h1]
      by_cases h2 : j = 2
      · rw [if_pos h2, if_pos h2]
      · rw [if_neg h2, if_neg h2]
        have key : ∀ a, (1 ≤ a ∧ a ≤ 9 ∧ j < 11) → fk_up S f i v a (j - 3) = S a (j - 3) := by
          intro a ha
          by_cases hf : a = f
          · subst hf
            exact fk_up_i (by omega)
          · rw [fk_up_f hf]
        by_cases h3 : j < 11
        · rw [if_pos h3, if_pos h3]
          unfold fk_fT
          rw [key 1 (by omega), key 2 (by omega), key 3 (by omega), key 4 (by omega), key 5 (by omega), key 6 (by omega), key 7 (by omega), key 8 (by omega), key 9 (by omega)]
        · rw [if_neg h3, if_neg h3]
          by_cases h4 : j < 19
          · rw [if_pos h4, if_pos h4]
            unfold fk_fL
            have : fk_up S f i v 10 (j - 11) = S 10 (j - 11) := by
              by_cases hf : 10 = f
              · subst hf
                exact fk_up_i (by omega)
              · rw [fk_up_f hf]
            rw [this]
          · rw [if_neg h4, if_neg h4]
            have : fk_row (fk_up S f i v) (j - 19) = fk_row S (j - 19) := by
              funext q
              unfold fk_row
              by_cases hq : q < 16
              · rw [if_pos hq, if_pos hq]
                by_cases hf : 11 = f
                · subst hf
                  exact fk_up_i (by omega)
                · rw [fk_up_f hf]
              · rw [if_neg hq, if_neg hq]
            rw [this]
theorem fk_setK {f : Nat} {v : Int32} {fs : List Value} (h : fs = fk_fK ad (fk_up S 12 f v)) : (fk_kW ad cI cT S ++ X).set 0 (ad 0, .inr (2, fs)) = fk_kW ad cI cT (fk_up S 12 f v) ++ X := by
  subst h
  exact fk_kSet (by decide) rfl (fun j hj hne => fk_kOther (by omega) hj hne)
theorem fk_setW {i : Nat} {v : Int32} : (fk_kW ad cI cT S ++ X).set 1 (ad 1, .inl (cI, 16, .inl (upd (S 0) i v))) = fk_kW ad cI cT (fk_up S 0 i v) ++ X :=
  fk_kSet (by decide) (by rw [← fk_up_fun]; rfl) (fun j hj hne => fk_kOther (by omega) hj hne)
theorem fk_setT {f : Nat} {v : Int32} {fs : List Value} (ht : t < 8) (hf : 1 ≤ f ∧ f ≤ 9) (h : fs = fk_fT ad (fk_up S f t v) t) : (fk_kW ad cI cT S ++ X).set (3 + t) (ad (3 + t), .inr (1, fs)) = fk_kW ad cI cT (fk_up S f t v) ++ X := by
  subst h
  exact fk_kSet (by omega) (fk_eT ht).symm (fun j hj hne => fk_kOther (by omega) hj hne)
theorem fk_setL {v : Int32} {fs : List Value} (ht : t < 8) (h : fs = fk_fL ad (fk_up S 10 t v) t) : (fk_kW ad cI cT S ++ X).set (11 + t) (ad (11 + t), .inr (0, fs)) = fk_kW ad cI cT (fk_up S 10 t v) ++ X := by
  subst h
  exact fk_kSet (by omega) (fk_eL ht).symm (fun j hj hne => fk_kOther (by omega) hj hne)
theorem fk_rowUp {i : Nat} {v : Int32} (hi : i < 16) : upd (fk_row S t) i v = fk_row (fk_up S 11 (16 * t + i) v) t := by
  funext q
  unfold upd fk_row
  by_cases hq : q = i
  · subst hq
    rw [if_pos rfl, if_pos hi, fk_up_s]
  · rw [if_neg hq]
    by_cases h16 : q < 16
    · rw [if_pos h16, if_pos h16, fk_up_i (by omega)]
    · rw [if_neg h16, if_neg h16]
theorem fk_setR {i : Nat} {v : Int32} (ht : t < 8) (hi : i < 16) : (fk_kW ad cI cT S ++ X).set (19 + t) (ad (19 + t), .inl (cI, 16, .inl (upd (fk_row S t) i v))) = fk_kW ad cI cT (fk_up S 11 (16 * t + i) v) ++ X :=
  fk_kSet (by omega) (by rw [fk_rowUp hi, fk_eR ht]) (fun j hj hne => fk_kOther (by omega) hj hne)
end
/-! the model's cells: itself and its 12 rows -/
def fk_mf (j : Nat) : Nat := match j with
  | 0 => 0 | 1 => 1 | 2 => 2 | 3 => 8 | 4 => 9 | 5 => 3 | 6 => 4 | 7 => 5 | 8 => 6 | 9 => 7 | 10 => 10 | _ => 11
def fk_ml (j : Nat) : Nat := if j = 0 then 16 else if j = 11 then 128 else 8
def fk_fM (bd : Nat → Nat) (S : fk_S) : List Value := [.ref (bd 1), .ref (bd 2), .ref (bd 3), .ref (bd 4), .ref (bd 5), .ref (bd 6), .ref (bd 7), .ref (bd 8), .ref (bd 9), .ref (bd 10), .ref (bd 11), .ref (bd 12), .int (S 12 0), .int (S 12 1), .int (S 12 2), .int (S 12 3), .int (S 12 4)]
def fk_mE (bd : Nat → Nat) (cI : ClassId) (S : fk_S) (k : Nat) : va_E := if k = 0 then .inr (3, fk_fM bd S) else .inl (cI, fk_ml (k - 1), .inl (S (fk_mf (k - 1))))
def fk_mW (bd : Nat → Nat) (cI : ClassId) (S : fk_S) : va_W := (List.range 13).map (fun k => (bd k, fk_mE bd cI S k))
section
variable {bd : Nat → Nat} {cI : ClassId} {S : fk_S} {X : va_W}
theorem fk_mAt {k : Nat} (h : k < 13) : (fk_mW bd cI S ++ X)[k]? = some (bd k, fk_mE bd cI S k) := by
  rw [List.getElem?_append_left (by simp [fk_mW, h])]
  simp [fk_mW, h]
theorem fk_atM : (fk_mW bd cI S ++ X)[0]? = some (bd 0, .inr (3, fk_fM bd S)) := fk_mAt (by decide)
theorem fk_atN {j f n : Nat} (hj : j < 12) (hf : fk_mf j = f) (hn : fk_ml j = n) : (fk_mW bd cI S ++ X)[j + 1]? = some (bd (j + 1), .inl (cI, n, .inl (S f))) := by
  subst hf
  subst hn
  rw [fk_mAt (by omega)]
  rfl
theorem fk_mSet {S' : fk_S} {k : Nat} {e : va_E} (h : k < 13) (he : e = fk_mE bd cI S' k) (ho : ∀ j, j < 13 → j ≠ k → fk_mE bd cI S' j = fk_mE bd cI S j) : (fk_mW bd cI S ++ X).set k (bd k, e) = fk_mW bd cI S' ++ X := by
  subst he
  apply List.ext_getElem?
  intro i
  by_cases hi : i = k
  · subst hi
    rw [List.getElem?_set_self (by simp [fk_mW]; omega), fk_mAt h]
  · rw [List.getElem?_set_ne (Ne.symm hi)]
    by_cases h27 : i < 13
    · rw [fk_mAt h27, fk_mAt h27, ho i h27 hi]
    · rw [List.getElem?_append_right (by simp [fk_mW]; omega), List.getElem?_append_right (by simp [fk_mW]; omega)]
      simp [fk_mW]
theorem fk_mfI : ∀ a, a < 12 → ∀ b, b < 12 → fk_mf a = fk_mf b → a = b := by decide
theorem fk_mf12 : ∀ a, a < 12 → fk_mf a ≠ 12 := by decide
theorem fk_mOther {f i : Nat} {v : Int32} {k : Nat} (hk : (f = 12 ∧ k = 0) ∨ ∃ j, j < 12 ∧ f = fk_mf j ∧ k = j + 1) {j : Nat} (hj : j < 13) (hne : j ≠ k) : fk_mE bd cI (fk_up S f i v) j = fk_mE bd cI S j := by
  unfold fk_mE
  by_cases h0 : j = 0
  · rw [if_pos h0, if_pos h0]
    unfold fk_fM
    rw [fk_up_f (a := 12)]
    rcases hk with ⟨-, h⟩ | ⟨j9, h1, h2, -⟩
    · omega
    · rw [h2]
      exact (fk_mf12 j9 h1).symm
  · rw [if_neg h0, if_neg h0, fk_up_f]
    rcases hk with ⟨h, -⟩ | ⟨j9, h1, h2, h3⟩
    · rw [h]
      exact fk_mf12 (j - 1) (by omega)
    · rw [h2]
      intro h
      have := fk_mfI (j - 1) (by omega) j9 h1 h
      omega
theorem fk_setM {f : Nat} {v : Int32} {fs : List Value} (h : fs = fk_fM bd (fk_up S 12 f v)) : (fk_mW bd cI S ++ X).set 0 (bd 0, .inr (3, fs)) = fk_mW bd cI (fk_up S 12 f v) ++ X := by
  subst h
  exact fk_mSet (by decide) rfl (fun j hj hne => fk_mOther (Or.inl ⟨rfl, rfl⟩) hj hne)
theorem fk_setN {j f n i : Nat} {v : Int32} (hj : j < 12) (hf : fk_mf j = f) (hn : fk_ml j = n) : (fk_mW bd cI S ++ X).set (j + 1) (bd (j + 1), .inl (cI, n, .inl (upd (S f) i v))) = fk_mW bd cI (fk_up S f i v) ++ X := by
  subst hf
  subst hn
  exact fk_mSet (by omega) (by rw [← fk_up_fun]; rfl) (fun k hk hne => fk_mOther (Or.inr ⟨j, hj, rfl, rfl⟩) hk hne)
end
end
section
/-! contracts: a method that answers 'res' and leaves the world W1; one that throws E and leaves the world as it was -/
abbrev fk_ty (cI cT cJ : ClassId) : List (ClassId × FieldType) := [(cI, .int), (cT, .object RX1), (cJ, .long)]
def fk_Qc (D : va_G) (tys : List (ClassId × FieldType)) (A : Nat → Prop) (W1 : va_W) (res : Option Value) : Array Value → State → Outcome → State → Prop := fun _ st oc t =>
  (oc = .returned res ∧ va_P D vwCl W1 t.heap ∧ va_K D vwCl tys t ∧ va_D A W1) ∧ va_F A st t
def fk_Pre (D : va_G) (tys : List (ClassId × FieldType)) (av : List Value) (W0 : va_W) (sz : Nat) : Array Value → State → Prop := va_Pc av (fun U => U.heap.size = sz ∧ va_P D vwCl W0 U.heap ∧ va_K D vwCl tys U ∧ va_D (fun _ => True) W0)
def fk_C (l : Launch) (D : va_G) (tys : List (ClassId × FieldType)) (y : MethodName) (ws : List Cond) (rm : Room) (av : List Value) (W0 : va_W) (res : Option Value) (W1 : va_W) : Prop :=
  ∀ sz, Met l y ws rm (fk_Pre D tys av W0 sz) (fk_Qc D tys (va_A W0 sz) W1 res) 0 0 (va_A W0 sz)
theorem fk_blind {D : va_G} {tys : List (ClassId × FieldType)} {av : List Value} {W0 : va_W} {sz : Nat} : FrameBlind (fk_Pre D tys av W0 sz) := fun a U g mk q => by
  obtain ⟨q0, q1, qP, qK, qD⟩ := q
  exact ⟨q0, q1, qP, va_K.moved (u := U) (U := U.calling g mk a) (Vm.Alike.refl U.vm) qK, qD⟩
/-- the end of a body -/
abbrev fk_Q (below : List Frame) (D : va_G) (tys : List (ClassId × FieldType)) (av : List Value) (s : State) (A : Nat → Prop) (W1 : va_W) (res : Option Value) : State → Prop := MQ below (fk_Qc D tys A W1 res) av.toArray s 0 0 A
theorem fk_C_of {l : Launch} {D : va_G} {tys : List (ClassId × FieldType)} {y : MethodName} {ws ws' : List Cond} {rm : Room} {av : List Value} {W0 : va_W} {res : Option Value} {W1 : va_W} {cc : ByteArray} {maxL : Nat} {ret : Option FieldType} {own : String}
    (hy : plainName y.cls = true) (hw : ws = Cond.code y cc maxL ret :: ws') (hyc : y.cls = own) (hle : (lg_sl av).length ≤ maxL)
    (body : ∀ (p : Program) (e : Env) (s : State) (m : MethodId) (below : List Frame) (meth : Method) (c : Code) (A : Nat → Prop) (ls : Array Slot), p.tables.exec = Jvm.exec → c.code = cc → meth.sig.returnType = ret → meth.locks = false → c.maxLocals = maxL → (∀ w ∈ ws, w.before av.toArray s = true) → s.vm.findClass own = some m.cls →
      (∀ q : Nat, s.heap.size ≤ q → A q) → va_P D vwCl W0 s.heap → va_K D vwCl tys s → va_D A W0 → lv_has ls maxL (lv_args 0 av) →
      W p l e rm s m av.toArray below meth c s.heap [] 0 0 (fk_Q below D tys av s A W1 res) (F0 m 0 ls [])) : fk_C l D tys y ws rm av W0 res W1 := by
  intro sz
  refine Met.ofW (cc := cc) (maxL := maxL) (ret := ret) hy hw ?_
  intro p e s m args below meth c s₁ B hml hv
  obtain ⟨rfl, hsz, hP, hK, hD0⟩ := hv
  subst hsz
  subst hyc
  have hD := hD0.self (sz := s.heap.size)
  have hA : ∀ q : Nat, s.heap.size ≤ q → va_A W0 s.heap.size q := fun q h => Or.inr h
  have hl := lv_entry av (n := maxL) hle
  rw [lg_entry_eq]
  exact body p e s m below meth c _ _ B.exec B.bytes B.returns B.notSynchronized hml (atoms_spec (ws := ws) B.pre) (findClass_of_methodNamed B.named) hA hP hK hD hl
section
variable {p : Program} {l : Launch} {e : Env} {R : Room} {s : State} {m : MethodId} {args : Array Value} {below : List Frame} {meth : Method} {c : Code} {H : Heap} {locs : List Loc} {cells slots : Nat} {Q : State → Prop}
variable {D : va_G} {tys : List (ClassId × FieldType)} {A A0 : Nat → Prop} {W0 W1 : va_W} {res : Option Value} {av : List Value} {cc : ByteArray} {pc : Nat} {ls : Array Slot}
theorem fk_post (hP : va_P D vwCl W0 H) (hK : va_K D vwCl tys s) (hD : va_D A W0) (hS : va_S A s.heap H locs) (hw : W0 = W1) {v : Option Value} (hv : v = res) : ∀ t : State, t.heap = H → s.WarmedH t.vm → fk_Qc D tys A W1 res av.toArray s (.returned v) t := by
  subst hw
  subst hv
  intro t ht hW
  exact ⟨⟨rfl, by rw [ht]; exact hP, va_K.moved hW.alike hK, hD⟩, hS.F ht⟩
theorem fk_iret {v : Int32} (hx : p.tables.exec = Jvm.exec) (hb : c.code = cc) (hr : meth.sig.returnType = some .int) (hlocks : meth.locks = false) (hP : va_P D vwCl W0 H) (hK : va_K D vwCl tys s) (hD : va_D A W0) (hS : va_S A s.heap H locs) (hw : W0 = W1) (hv : some (Value.int v) = res) (d : decode cc pc = .ok (.ireturn, 1)) :
    W p l e R s m av.toArray below meth c H locs 0 0 (fk_Q below D tys av s A W1 res) (F0 m pc ls [.int v]) := W.iret hx hb hr (fk_post hP hK hD hS hw hv) hS.2.2 d hlocks
theorem fk_zret {v : Int32} (hx : p.tables.exec = Jvm.exec) (hb : c.code = cc) (hr : meth.sig.returnType = some .boolean) (hlocks : meth.locks = false) (hP : va_P D vwCl W0 H) (hK : va_K D vwCl tys s) (hD : va_D A W0) (hS : va_S A s.heap H locs) (hw : W0 = W1) (hn : narrow .boolean (.int v) = .int v) (hv : some (Value.int v) = res) (d : decode cc pc = .ok (.ireturn, 1)) :
    W p l e R s m av.toArray below meth c H locs 0 0 (fk_Q below D tys av s A W1 res) (F0 m pc ls [.int v]) := W.zret hx hb hr hn (fk_post hP hK hD hS hw hv) hS.2.2 d hlocks
theorem fk_lret {v : Int64} (hx : p.tables.exec = Jvm.exec) (hb : c.code = cc) (hr : meth.sig.returnType = some .long) (hlocks : meth.locks = false) (hP : va_P D vwCl W0 H) (hK : va_K D vwCl tys s) (hD : va_D A W0) (hS : va_S A s.heap H locs) (hw : W0 = W1) (hv : some (Value.long v) = res) (d : decode cc pc = .ok (.lreturn, 1)) :
    W p l e R s m av.toArray below meth c H locs 0 0 (fk_Q below D tys av s A W1 res) (F0 m pc ls [.long v]) := W.lret hx hb hr (fk_post hP hK hD hS hw hv) hS.2.2 d hlocks
theorem fk_vret (hx : p.tables.exec = Jvm.exec) (hb : c.code = cc) (hr : meth.sig.returnType = none) (hlocks : meth.locks = false) (hP : va_P D vwCl W0 H) (hK : va_K D vwCl tys s) (hD : va_D A W0) (hS : va_S A s.heap H locs) (hw : W0 = W1) (hv : none = res) (d : decode cc pc = .ok (.return_, 1)) :
    W p l e R s m av.toArray below meth c H locs 0 0 (fk_Q below D tys av s A W1 res) (F0 m pc ls []) := W.vret hx hb hr (fk_post hP hK hD hS hw hv) hS.2.2 d hlocks
end
theorem fk_aret {rt : FieldType} {v : Value} {p : Program} {l : Launch} {e : Env} {R : Room} {s : State} {m : MethodId} {below : List Frame} {meth : Method} {c : Code} {H : Heap} {locs : List Loc} {D : va_G} {tys : List (ClassId × FieldType)} {A : Nat → Prop} {W0 W1 : va_W} {res : Option Value} {av : List Value} {cc : ByteArray} {pc : Nat} {ls : Array Slot}
    (hx : p.tables.exec = Jvm.exec) (hb : c.code = cc) (hr : meth.sig.returnType = some rt) (hrt : (∃ n, rt = .object n) ∨ ∃ t, rt = .array t) (hvr : v = .null ∨ ∃ a, v = .ref a) (hlocks : meth.locks = false) (hP : va_P D vwCl W0 H) (hK : va_K D vwCl tys s) (hD : va_D A W0) (hS : va_S A s.heap H locs) (hw : W0 = W1) (hv : some v = res) (d : decode cc pc = .ok (.areturn, 1)) :
    W p l e R s m av.toArray below meth c H locs 0 0 (fk_Q below D tys av s A W1 res) (F0 m pc ls [v]) := W.aret hx hb hr hrt hvr (fk_post hP hK hD hS hw hv) hS.2.2 d hlocks
/-- which cells a callee may change are the caller's own -/
theorem fk_fr {A0 : Nat → Prop} {W0 : va_W} {H0 H : Heap} {locs : List Loc} (hD : va_D A0 W0) (hS : va_S A0 H0 H locs) (hA : ∀ q, H0.size ≤ q → A0 q) : ∀ q, va_A W0 H.size q → A0 q := by
  intro q h
  rcases h with ⟨k, e, h⟩ | h
  · exact hD.2 k (q, e) h
  · exact hA q (Nat.le_trans hS.1 h)
section
variable {p : Program} {l : Launch} {e : Env} {R : Room} {s : State} {m : MethodId} {args : Array Value} {below : List Frame} {meth : Method} {c : Code} {H H0 : Heap} {locs : List Loc} {cells slots : Nat} {Q : State → Prop}
variable {D : va_G} {tys : List (ClassId × FieldType)} {A A0 : Nat → Prop} {W0 W1 : va_W} {res : Option Value} {av : List Value} {cc bytes : ByteArray} {pc nL maxL index n : Nat} {ls : Array Slot} {st0 rest : List Value}
variable {y : MethodName} {ret : Option FieldType} {wsY Ts : List Cond} {rm : Room} {own C : String} {b : Addr} {As : List Value}
theorem fk_call {a : Array Value} {sz : Nat} (hsz : sz = H.size) (hr : va_Run p l e R s m args below meth c H locs cells slots 0 0 (F0 m pc ls st0) rest (fk_Qc D tys (va_A W0 sz) W1 res a) (va_A W0 sz)) (hD : va_D A0 W0) (hS : va_S A0 H0 H locs) (hA : ∀ q, H0.size ≤ q → A0 q)
    (kk : ∀ (H1 : Heap) (locs1 : List Loc), va_P D vwCl W1 H1 → va_D A0 W1 → va_S A0 H0 H1 locs1 → W p l e R s m args below meth c H1 locs1 cells slots Q (F0 m (pc + 3) ls (res.toList ++ rest))) : W p l e R s m args below meth c H locs cells slots Q (F0 m pc ls st0) := by
  subst hsz
  have hf := fk_fr hD hS hA
  intro T hT X
  obtain ⟨v, st₀, t, T', L, h0, X', hL, e1, e2, ⟨⟨hv, hP1, hK1, hD1⟩, hz, hk⟩, st⟩ := hr T hT X
  cases hv
  rw [h0] at hz hk
  obtain ⟨t2, a1, b1⟩ := kk T'.heap (locs ++ L) (by rw [e1]; exact hP1) (hD1.weaken (fun _ _ _ h => hf _ h))
    ⟨Nat.le_trans hS.1 (by rw [e1]; exact hz), fun q h1 h2 => by rw [e1, hk q (Nat.lt_of_lt_of_le h1 hS.1) (fun z => h2 (hf q z))]; exact hS.2.1 q h1 h2, fun q hq => by
      rcases List.mem_append.mp hq with h | h
      · exact hS.2.2 q h
      · exact hf _ (hL q h)⟩ T' rfl X'
  exact ⟨t2, st t2 a1, b1⟩
theorem fk_pre (hP : va_P D vwCl W0 H) (hK : va_K D vwCl tys s) (hD : va_D A0 W0) : ∀ U : State, U.heap = H → s.WarmedH U.vm → fk_Pre D tys av W0 H.size av.toArray U := fun U hU hW => ⟨rfl, by rw [hU], by rw [hU]; exact hP, va_K.moved hW.alike hK, hD.weaken (fun _ _ _ _ => trivial)⟩
theorem fk_callV (S9 : CallFix p m c cc nL s args Ts own) (hC : fk_C l D tys y wsY rm (.ref b :: As) W0 res W1) (cw : CallW R s args own C index y bytes maxL ret wsY rm 0 0 n)
    (hrv : ∃ cell : Cell, H[b]? = some cell ∧ cell.vm.isStatics = false ∧ s.vm.findClass C = some cell.cls) (hK : va_K D vwCl tys s) (hP : va_P D vwCl W0 H) (hD : va_D A0 W0) (hS : va_S A0 H0 H locs) (hA : ∀ q, H0.size ≤ q → A0 q)
    (hn : As.length = n) (hsize : ls.size = nL) (hst : st0 = As.reverse ++ .ref b :: rest) (hW : (rest.map fun v => v.category).sum ≤ 8) (hdg : decode cc pc = .ok (.invokevirtual index, 3)) (hf : cells ≤ R.cells ∧ slots ≤ R.slots)
    (kk : ∀ (H1 : Heap) (locs1 : List Loc), va_P D vwCl W1 H1 → va_D A0 W1 → va_S A0 H0 H1 locs1 → W p l e R s m args below meth c H1 locs1 cells slots Q (F0 m (pc + 3) ls (res.toList ++ rest))) : W p l e R s m args below meth c H locs cells slots Q (F0 m pc ls st0) :=
  fk_call rfl (va_runV (As := As) (rest := rest) S9 (hC H.size) cw ⟨fk_blind, hrv, fk_pre hP hK hD⟩ rfl hn hsize hst (lv_room hW) hdg hf) hD hS hA kk
theorem fk_callS (S9 : CallFix p m c cc nL s args Ts own) (hC : fk_C l D tys y wsY rm As W0 res W1) (cw : CallB R s args own index y bytes maxL ret wsY rm 0 0 n ∧ (Cond.static y).before args s = true)
    (hK : va_K D vwCl tys s) (hP : va_P D vwCl W0 H) (hD : va_D A0 W0) (hS : va_S A0 H0 H locs) (hA : ∀ q, H0.size ≤ q → A0 q)
    (hn : As.length = n) (hsize : ls.size = nL) (hst : st0 = As.reverse ++ rest) (hW : (rest.map fun v => v.category).sum ≤ 8) (hdg : decode cc pc = .ok (.invokestatic index, 3)) (hf : cells ≤ R.cells ∧ slots ≤ R.slots)
    (kk : ∀ (H1 : Heap) (locs1 : List Loc), va_P D vwCl W1 H1 → va_D A0 W1 → va_S A0 H0 H1 locs1 → W p l e R s m args below meth c H1 locs1 cells slots Q (F0 m (pc + 3) ls (res.toList ++ rest))) : W p l e R s m args below meth c H locs cells slots Q (F0 m pc ls st0) :=
  fk_call rfl (va_runS (As := As) (rest := rest) S9 (hC H.size) cw ⟨fk_blind, fk_pre hP hK hD⟩ rfl hn hsize hst (lv_room hW) hdg hf) hD hS hA kk
end
/-! the rows of the kernel's and the model's cells -/
section
variable {p : Program} {l : Launch} {e : Env} {R : Room} {s : State} {m : MethodId} {args : Array Value} {below : List Frame} {meth : Method} {c : Code} {H H0 : Heap} {locs : List Loc} {cells slots : Nat} {Q : State → Prop}
variable {D : va_G} {A : Nat → Prop} {cc : ByteArray} {pc index : Nat} {ls : Array Slot} {rest : List Value} {own : String} {Ts : List Cond}
variable {ad bd : Nat → Nat} {cI cT cJ : ClassId} {S : fk_S} {X : va_W} {t : Nat}
theorem fk_getK (hx : p.tables.exec = Jvm.exec) (hb : c.code = cc) (hts : ∀ w ∈ Ts, w.before args s = true) (hin : ∀ w ∈ u_ws RX2 TX2 6, w ∈ Ts) (hown : s.vm.findClass own = some m.cls) (hK : va_K D vwCl (fk_ty cI cT cJ) s) (hP : va_P D vwCl (fk_kW ad cI cT S ++ X) H) (k : Nat) (hk : k < 6) {v : Value} (hv : (fk_fK ad S)[k]? = some v)
    (hlink : Cond.fieldLink own index "FutexKernel" (TX2 k).2.1 (TX2 k).2.2.1 ∈ Ts) (ho : (TX2 k).1 = "FutexKernel") (d : decode cc pc = .ok (.getfield index, 3)) (kk : W p l e R s m args below meth c H locs cells slots Q (F0 m (pc + 3) ls (v :: rest))) : W p l e R s m args below meth c H locs cells slots Q (F0 m pc ls (.ref (ad 0) :: rest)) :=
  va_get (ci := 2) (C := RX2) (T := TX2) (N := 6) hx hb hts hin hown hK hP 0 fk_atK rfl k hk (hts _ hlink) (fun x h => by rw [ho] at h; exact h) hv d kk
theorem fk_getT (hx : p.tables.exec = Jvm.exec) (hb : c.code = cc) (hts : ∀ w ∈ Ts, w.before args s = true) (hin : ∀ w ∈ u_ws RX1 TX1 11, w ∈ Ts) (hown : s.vm.findClass own = some m.cls) (hK : va_K D vwCl (fk_ty cI cT cJ) s) (hP : va_P D vwCl (fk_kW ad cI cT S ++ X) H) (ht : t < 8) (k : Nat) (hk : k < 11) {v : Value} (hv : (fk_fT ad S t)[k]? = some v)
    (hlink : Cond.fieldLink own index "FutexKernel$Task" (TX1 k).2.1 (TX1 k).2.2.1 ∈ Ts) (ho : (TX1 k).1 = "FutexKernel$Task") (d : decode cc pc = .ok (.getfield index, 3)) (kk : W p l e R s m args below meth c H locs cells slots Q (F0 m (pc + 3) ls (v :: rest))) : W p l e R s m args below meth c H locs cells slots Q (F0 m pc ls (.ref (ad (3 + t)) :: rest)) :=
  va_get (ci := 1) (C := RX1) (T := TX1) (N := 11) hx hb hts hin hown hK hP (3 + t) (fk_atT ht) rfl k hk (hts _ hlink) (fun x h => by rw [ho] at h; exact h) hv d kk
theorem fk_getL (hx : p.tables.exec = Jvm.exec) (hb : c.code = cc) (hts : ∀ w ∈ Ts, w.before args s = true) (hin : ∀ w ∈ u_ws RX0 TX0 2, w ∈ Ts) (hown : s.vm.findClass own = some m.cls) (hK : va_K D vwCl (fk_ty cI cT cJ) s) (hP : va_P D vwCl (fk_kW ad cI cT S ++ X) H) (ht : t < 8) (k : Nat) (hk : k < 2) {v : Value} (hv : (fk_fL ad S t)[k]? = some v)
    (hlink : Cond.fieldLink own index "FutexKernel$LockList" (TX0 k).2.1 (TX0 k).2.2.1 ∈ Ts) (ho : (TX0 k).1 = "FutexKernel$LockList") (d : decode cc pc = .ok (.getfield index, 3)) (kk : W p l e R s m args below meth c H locs cells slots Q (F0 m (pc + 3) ls (v :: rest))) : W p l e R s m args below meth c H locs cells slots Q (F0 m pc ls (.ref (ad (11 + t)) :: rest)) :=
  va_get (ci := 0) (C := RX0) (T := TX0) (N := 2) hx hb hts hin hown hK hP (11 + t) (fk_atL ht) rfl k hk (hts _ hlink) (fun x h => by rw [ho] at h; exact h) hv d kk
theorem fk_getM (hx : p.tables.exec = Jvm.exec) (hb : c.code = cc) (hts : ∀ w ∈ Ts, w.before args s = true) (hin : ∀ w ∈ u_ws RX3 TX3 17, w ∈ Ts) (hown : s.vm.findClass own = some m.cls) (hK : va_K D vwCl (fk_ty cI cT cJ) s) (hP : va_P D vwCl (fk_mW bd cI S ++ X) H) (k : Nat) (hk : k < 17) {v : Value} (hv : (fk_fM bd S)[k]? = some v)
    (hlink : Cond.fieldLink own index "FutexKernelModel" (TX3 k).2.1 (TX3 k).2.2.1 ∈ Ts) (ho : (TX3 k).1 = "FutexKernelModel") (d : decode cc pc = .ok (.getfield index, 3)) (kk : W p l e R s m args below meth c H locs cells slots Q (F0 m (pc + 3) ls (v :: rest))) : W p l e R s m args below meth c H locs cells slots Q (F0 m pc ls (.ref (bd 0) :: rest)) :=
  va_get (ci := 3) (C := RX3) (T := TX3) (N := 17) hx hb hts hin hown hK hP 0 fk_atM rfl k hk (hts _ hlink) (fun x h => by rw [ho] at h; exact h) hv d kk
theorem fk_putK (hx : p.tables.exec = Jvm.exec) (hb : c.code = cc) (hts : ∀ w ∈ Ts, w.before args s = true) (hin : ∀ w ∈ u_ws RX2 TX2 6, w ∈ Ts) (hown : s.vm.findClass own = some m.cls) (hK : va_K D vwCl (fk_ty cI cT cJ) s) (hP : va_P D vwCl (fk_kW ad cI cT S ++ X) H) (hD : va_D A (fk_kW ad cI cT S ++ X)) (hS : va_S A H0 H locs) (f : Nat) (hk : f + 2 < 6) {v : Int32} (hset : (fk_fK ad S).set (f + 2) (.int v) = fk_fK ad (fk_up S 12 f v))
    (hlink : Cond.fieldLink own index "FutexKernel" (TX2 (f + 2)).2.1 (TX2 (f + 2)).2.2.1 ∈ Ts) (ho : (TX2 (f + 2)).1 = "FutexKernel") (hfin : (TX2 (f + 2)).2.2.2 = false) (hd : parseFieldDescriptor (TX2 (f + 2)).2.2.1 = some .int) (d : decode cc pc = .ok (.putfield index, 3))
    (kk : ∀ (H1 : Heap) (locs1 : List Loc), va_P D vwCl (fk_kW ad cI cT (fk_up S 12 f v) ++ X) H1 → va_D A (fk_kW ad cI cT (fk_up S 12 f v) ++ X) → va_S A H0 H1 locs1 → W p l e R s m args below meth c H1 locs1 cells slots Q (F0 m (pc + 3) ls rest)) : W p l e R s m args below meth c H locs cells slots Q (F0 m pc ls (.int v :: .ref (ad 0) :: rest)) :=
  va_put (ci := 2) (C := RX2) (T := TX2) (N := 6) hx hb hts hin tyX2 tyX2_ok nmX2 hown hK hP hD hS 0 fk_atK rfl (f + 2) hk (hts _ hlink) (fun x h => by rw [ho] at h; exact h) hfin hd rfl rfl hk d (fun H1 locs1 p1 p2 p3 => by rw [fk_setK hset] at p1 p2; exact kk H1 locs1 p1 p2 p3)
theorem fk_putT (hx : p.tables.exec = Jvm.exec) (hb : c.code = cc) (hts : ∀ w ∈ Ts, w.before args s = true) (hin : ∀ w ∈ u_ws RX1 TX1 11, w ∈ Ts) (hown : s.vm.findClass own = some m.cls) (hK : va_K D vwCl (fk_ty cI cT cJ) s) (hP : va_P D vwCl (fk_kW ad cI cT S ++ X) H) (hD : va_D A (fk_kW ad cI cT S ++ X)) (hS : va_S A H0 H locs) (ht : t < 8) (f : Nat) (hk : f + 1 < 11) (h1 : 1 ≤ f) {v : Int32} (hset : (fk_fT ad S t).set (f + 1) (.int v) = fk_fT ad (fk_up S f t v) t)
    (hlink : Cond.fieldLink own index "FutexKernel$Task" (TX1 (f + 1)).2.1 (TX1 (f + 1)).2.2.1 ∈ Ts) (ho : (TX1 (f + 1)).1 = "FutexKernel$Task") (hfin : (TX1 (f + 1)).2.2.2 = false) (hd : parseFieldDescriptor (TX1 (f + 1)).2.2.1 = some .int) (d : decode cc pc = .ok (.putfield index, 3))
    (kk : ∀ (H1 : Heap) (locs1 : List Loc), va_P D vwCl (fk_kW ad cI cT (fk_up S f t v) ++ X) H1 → va_D A (fk_kW ad cI cT (fk_up S f t v) ++ X) → va_S A H0 H1 locs1 → W p l e R s m args below meth c H1 locs1 cells slots Q (F0 m (pc + 3) ls rest)) : W p l e R s m args below meth c H locs cells slots Q (F0 m pc ls (.int v :: .ref (ad (3 + t)) :: rest)) :=
  va_put (ci := 1) (C := RX1) (T := TX1) (N := 11) hx hb hts hin tyX1 tyX1_ok nmX1 hown hK hP hD hS (3 + t) (fk_atT ht) rfl (f + 1) hk (hts _ hlink) (fun x h => by rw [ho] at h; exact h) hfin hd rfl rfl hk d (fun H1 locs1 p1 p2 p3 => by rw [fk_setT ht (by omega) hset] at p1 p2; exact kk H1 locs1 p1 p2 p3)
theorem fk_putL (hx : p.tables.exec = Jvm.exec) (hb : c.code = cc) (hts : ∀ w ∈ Ts, w.before args s = true) (hin : ∀ w ∈ u_ws RX0 TX0 2, w ∈ Ts) (hown : s.vm.findClass own = some m.cls) (hK : va_K D vwCl (fk_ty cI cT cJ) s) (hP : va_P D vwCl (fk_kW ad cI cT S ++ X) H) (hD : va_D A (fk_kW ad cI cT S ++ X)) (hS : va_S A H0 H locs) (ht : t < 8) {v : Int32}
    (hlink : Cond.fieldLink own index "FutexKernel$LockList" "size" "I" ∈ Ts) (d : decode cc pc = .ok (.putfield index, 3))
    (kk : ∀ (H1 : Heap) (locs1 : List Loc), va_P D vwCl (fk_kW ad cI cT (fk_up S 10 t v) ++ X) H1 → va_D A (fk_kW ad cI cT (fk_up S 10 t v) ++ X) → va_S A H0 H1 locs1 → W p l e R s m args below meth c H1 locs1 cells slots Q (F0 m (pc + 3) ls rest)) : W p l e R s m args below meth c H locs cells slots Q (F0 m pc ls (.int v :: .ref (ad (11 + t)) :: rest)) :=
  va_put (ci := 0) (C := RX0) (T := TX0) (N := 2) hx hb hts hin tyX0 tyX0_ok nmX0 hown hK hP hD hS (11 + t) (fk_atL ht) rfl 1 (by decide) (hts _ hlink) (fun x h => h) rfl (ty := .int) (by decide +kernel) rfl rfl (by simp [fk_fL]) d (fun H1 locs1 p1 p2 p3 => by rw [fk_setL (v := v) ht (by simp [fk_fL, fk_up])] at p1 p2; exact kk H1 locs1 p1 p2 p3)
theorem fk_putM (hx : p.tables.exec = Jvm.exec) (hb : c.code = cc) (hts : ∀ w ∈ Ts, w.before args s = true) (hin : ∀ w ∈ u_ws RX3 TX3 17, w ∈ Ts) (hown : s.vm.findClass own = some m.cls) (hK : va_K D vwCl (fk_ty cI cT cJ) s) (hP : va_P D vwCl (fk_mW bd cI S ++ X) H) (hD : va_D A (fk_mW bd cI S ++ X)) (hS : va_S A H0 H locs) (f : Nat) (hk : f + 12 < 17) {v : Int32} (hset : (fk_fM bd S).set (f + 12) (.int v) = fk_fM bd (fk_up S 12 f v))
    (hlink : Cond.fieldLink own index "FutexKernelModel" (TX3 (f + 12)).2.1 (TX3 (f + 12)).2.2.1 ∈ Ts) (ho : (TX3 (f + 12)).1 = "FutexKernelModel") (hfin : (TX3 (f + 12)).2.2.2 = false) (hd : parseFieldDescriptor (TX3 (f + 12)).2.2.1 = some .int) (d : decode cc pc = .ok (.putfield index, 3))
    (kk : ∀ (H1 : Heap) (locs1 : List Loc), va_P D vwCl (fk_mW bd cI (fk_up S 12 f v) ++ X) H1 → va_D A (fk_mW bd cI (fk_up S 12 f v) ++ X) → va_S A H0 H1 locs1 → W p l e R s m args below meth c H1 locs1 cells slots Q (F0 m (pc + 3) ls rest)) : W p l e R s m args below meth c H locs cells slots Q (F0 m pc ls (.int v :: .ref (bd 0) :: rest)) :=
  va_put (ci := 3) (C := RX3) (T := TX3) (N := 17) hx hb hts hin tyX3 tyX3_ok nmX3 hown hK hP hD hS 0 fk_atM rfl (f + 12) hk (hts _ hlink) (fun x h => by rw [ho] at h; exact h) hfin hd rfl rfl hk d (fun H1 locs1 p1 p2 p3 => by rw [fk_setM hset] at p1 p2; exact kk H1 locs1 p1 p2 p3)
/-- a word of the kernel -/
theorem fk_ldW (hx : p.tables.exec = Jvm.exec) (hb : c.code = cc) (hK : va_K D vwCl (fk_ty cI cT cJ) s) (hP : va_P D vwCl (fk_kW ad cI cT S ++ X) H) {i : Int32} (hi : vp_in i 16) (d : decode cc pc = .ok (.iaload, 1))
    (kk : W p l e R s m args below meth c H locs cells slots Q (F0 m (pc + 1) ls (.int (S 0 i.toNatClampNeg) :: rest))) : W p l e R s m args below meth c H locs cells slots Q (F0 m pc ls (.int i :: .ref (ad 1) :: rest)) := va_iald hx hb hK hP 1 0 fk_atW rfl hi d kk
theorem fk_stW (hx : p.tables.exec = Jvm.exec) (hb : c.code = cc) (hK : va_K D vwCl (fk_ty cI cT cJ) s) (hP : va_P D vwCl (fk_kW ad cI cT S ++ X) H) (hD : va_D A (fk_kW ad cI cT S ++ X)) (hS : va_S A H0 H locs) {i v : Int32} (hi : vp_in i 16) (d : decode cc pc = .ok (.iastore, 1))
    (kk : ∀ (H1 : Heap) (locs1 : List Loc), va_P D vwCl (fk_kW ad cI cT (fk_up S 0 i.toNatClampNeg v) ++ X) H1 → va_D A (fk_kW ad cI cT (fk_up S 0 i.toNatClampNeg v) ++ X) → va_S A H0 H1 locs1 → W p l e R s m args below meth c H1 locs1 cells slots Q (F0 m (pc + 1) ls rest)) : W p l e R s m args below meth c H locs cells slots Q (F0 m pc ls (.int v :: .int i :: .ref (ad 1) :: rest)) :=
  va_iast hx hb hK hP hD hS 1 0 fk_atW rfl hi d (fun H1 locs1 p1 p2 p3 => by rw [fk_setW] at p1 p2; exact kk H1 locs1 p1 p2 p3)
/-- a task out of the kernel's row -/
theorem fk_ldA (hx : p.tables.exec = Jvm.exec) (hb : c.code = cc) (hK : va_K D vwCl (fk_ty cI cT cJ) s) (hP : va_P D vwCl (fk_kW ad cI cT S ++ X) H) {i : Int32} (hi : vp_in i 8) (d : decode cc pc = .ok (.aaload, 1))
    (kk : W p l e R s m args below meth c H locs cells slots Q (F0 m (pc + 1) ls (.ref (ad (3 + i.toNatClampNeg)) :: rest))) : W p l e R s m args below meth c H locs cells slots Q (F0 m pc ls (.int i :: .ref (ad 2) :: rest)) := va_aldq hx hb hK hP 2 1 fk_atA rfl hi d kk
theorem fk_lenA (hx : p.tables.exec = Jvm.exec) (hb : c.code = cc) (hK : va_K D vwCl (fk_ty cI cT cJ) s) (hP : va_P D vwCl (fk_kW ad cI cT S ++ X) H) (d : decode cc pc = .ok (.arraylength, 1))
    (kk : W p l e R s m args below meth c H locs cells slots Q (F0 m (pc + 1) ls (.int 8 :: rest))) : W p l e R s m args below meth c H locs cells slots Q (F0 m pc ls (.ref (ad 2) :: rest)) := va_alen hx hb hK hP 2 1 fk_atA rfl (v := 8) rfl d kk
theorem fk_ldR (hx : p.tables.exec = Jvm.exec) (hb : c.code = cc) (hK : va_K D vwCl (fk_ty cI cT cJ) s) (hP : va_P D vwCl (fk_kW ad cI cT S ++ X) H) (ht : t < 8) {i : Int32} (hi : vp_in i 16) (d : decode cc pc = .ok (.iaload, 1))
    (kk : W p l e R s m args below meth c H locs cells slots Q (F0 m (pc + 1) ls (.int (S 11 (16 * t + i.toNatClampNeg)) :: rest))) : W p l e R s m args below meth c H locs cells slots Q (F0 m pc ls (.int i :: .ref (ad (19 + t)) :: rest)) :=
  va_iald hx hb hK hP (19 + t) 0 (fk_atR ht) rfl hi d (by
    have h : fk_row S t i.toNatClampNeg = S 11 (16 * t + i.toNatClampNeg) := by
      unfold fk_row
      rw [if_pos (Nat.not_le.mp fun q => hi (Or.inr q))]
    rw [h]
    exact kk)
theorem fk_stR (hx : p.tables.exec = Jvm.exec) (hb : c.code = cc) (hK : va_K D vwCl (fk_ty cI cT cJ) s) (hP : va_P D vwCl (fk_kW ad cI cT S ++ X) H) (hD : va_D A (fk_kW ad cI cT S ++ X)) (hS : va_S A H0 H locs) (ht : t < 8) {i v : Int32} (hi : vp_in i 16) (d : decode cc pc = .ok (.iastore, 1))
    (kk : ∀ (H1 : Heap) (locs1 : List Loc), va_P D vwCl (fk_kW ad cI cT (fk_up S 11 (16 * t + i.toNatClampNeg) v) ++ X) H1 → va_D A (fk_kW ad cI cT (fk_up S 11 (16 * t + i.toNatClampNeg) v) ++ X) → va_S A H0 H1 locs1 → W p l e R s m args below meth c H1 locs1 cells slots Q (F0 m (pc + 1) ls rest)) : W p l e R s m args below meth c H locs cells slots Q (F0 m pc ls (.int v :: .int i :: .ref (ad (19 + t)) :: rest)) :=
  va_iast hx hb hK hP hD hS (19 + t) 0 (fk_atR ht) rfl hi d (fun H1 locs1 p1 p2 p3 => by rw [fk_setR ht (Nat.not_le.mp fun q => hi (Or.inr q))] at p1 p2; exact kk H1 locs1 p1 p2 p3)
theorem fk_ldN (hx : p.tables.exec = Jvm.exec) (hb : c.code = cc) (hK : va_K D vwCl (fk_ty cI cT cJ) s) (hP : va_P D vwCl (fk_mW bd cI S ++ X) H) {q : Nat} (j f n : Nat) (hq : q = j + 1) (hj : j < 12) (hf : fk_mf j = f) (hn : fk_ml j = n) {i : Int32} (hi : vp_in i n) (d : decode cc pc = .ok (.iaload, 1))
    (kk : W p l e R s m args below meth c H locs cells slots Q (F0 m (pc + 1) ls (.int (S f i.toNatClampNeg) :: rest))) : W p l e R s m args below meth c H locs cells slots Q (F0 m pc ls (.int i :: .ref (bd q) :: rest)) := by
  subst hq
  exact va_iald hx hb hK hP (j + 1) 0 (fk_atN hj hf hn) rfl hi d kk
theorem fk_stN (hx : p.tables.exec = Jvm.exec) (hb : c.code = cc) (hK : va_K D vwCl (fk_ty cI cT cJ) s) (hP : va_P D vwCl (fk_mW bd cI S ++ X) H) (hD : va_D A (fk_mW bd cI S ++ X)) (hS : va_S A H0 H locs) {q : Nat} (j f n : Nat) (hq : q = j + 1) (hj : j < 12) (hf : fk_mf j = f) (hn : fk_ml j = n) {i v : Int32} (hi : vp_in i n) (d : decode cc pc = .ok (.iastore, 1))
    (kk : ∀ (H1 : Heap) (locs1 : List Loc), va_P D vwCl (fk_mW bd cI (fk_up S f i.toNatClampNeg v) ++ X) H1 → va_D A (fk_mW bd cI (fk_up S f i.toNatClampNeg v) ++ X) → va_S A H0 H1 locs1 → W p l e R s m args below meth c H1 locs1 cells slots Q (F0 m (pc + 1) ls rest)) : W p l e R s m args below meth c H locs cells slots Q (F0 m pc ls (.int v :: .int i :: .ref (bd q) :: rest)) := by
  subst hq
  exact va_iast hx hb hK hP hD hS (j + 1) 0 (fk_atN hj hf hn) rfl hi d (fun H1 locs1 p1 p2 p3 => by rw [fk_setN hj hf hn] at p1 p2; exact kk H1 locs1 p1 p2 p3)
theorem fk_rvK (hK : va_K D vwCl (fk_ty cI cT cJ) s) (hP : va_P D vwCl (fk_kW ad cI cT S ++ X) H) : ∃ cell : Cell, H[ad 0]? = some cell ∧ cell.vm.isStatics = false ∧ s.vm.findClass RX2 = some cell.cls := va_recv hK hP (ci := 2) (q0 := 0) rfl fk_atK
theorem fk_rvT (hK : va_K D vwCl (fk_ty cI cT cJ) s) (hP : va_P D vwCl (fk_kW ad cI cT S ++ X) H) (ht : t < 8) : ∃ cell : Cell, H[ad (3 + t)]? = some cell ∧ cell.vm.isStatics = false ∧ s.vm.findClass RX1 = some cell.cls := va_recv hK hP (ci := 1) (q0 := 3 + t) rfl (fk_atT ht)
theorem fk_rvL (hK : va_K D vwCl (fk_ty cI cT cJ) s) (hP : va_P D vwCl (fk_kW ad cI cT S ++ X) H) (ht : t < 8) : ∃ cell : Cell, H[ad (11 + t)]? = some cell ∧ cell.vm.isStatics = false ∧ s.vm.findClass RX0 = some cell.cls := va_recv hK hP (ci := 0) (q0 := 11 + t) rfl (fk_atL ht)
theorem fk_rvM (hK : va_K D vwCl (fk_ty cI cT cJ) s) (hP : va_P D vwCl (fk_mW bd cI S ++ X) H) : ∃ cell : Cell, H[bd 0]? = some cell ∧ cell.vm.isStatics = false ∧ s.vm.findClass RX3 = some cell.cls := va_recv hK hP (ci := 3) (q0 := 0) rfl fk_atM
end
end
section
theorem dX0_init_0 : decode cX0_init 0 = .ok (.aload_n 0, 1) := by decide +kernel
theorem dX0_init_1 : decode cX0_init 1 = .ok (.invokespecial 3, 3) := by decide +kernel
theorem dX0_init_4 : decode cX0_init 4 = .ok (.aload_n 0, 1) := by decide +kernel
theorem dX0_init_5 : decode cX0_init 5 = .ok (.bipush 16, 2) := by decide +kernel
theorem dX0_init_7 : decode cX0_init 7 = .ok (.newarray .int, 2) := by decide +kernel
theorem dX0_init_9 : decode cX0_init 9 = .ok (.putfield 9, 3) := by decide +kernel
theorem dX0_init_12 : decode cX0_init 12 = .ok (.aload_n 0, 1) := by decide +kernel
theorem dX0_init_13 : decode cX0_init 13 = .ok (.iconst 0, 1) := by decide +kernel
theorem dX0_init_14 : decode cX0_init 14 = .ok (.putfield 15, 3) := by decide +kernel
theorem dX0_init_17 : decode cX0_init 17 = .ok (.return_, 1) := by decide +kernel
theorem dX0_addressAt_0 : decode cX0_addressAt 0 = .ok (.iload_n 1, 1) := by decide +kernel
theorem dX0_addressAt_1 : decode cX0_addressAt 1 = .ok (.ifCond .lt 20, 3) := by decide +kernel
theorem dX0_addressAt_4 : decode cX0_addressAt 4 = .ok (.iload_n 1, 1) := by decide +kernel
theorem dX0_addressAt_5 : decode cX0_addressAt 5 = .ok (.aload_n 0, 1) := by decide +kernel
theorem dX0_addressAt_6 : decode cX0_addressAt 6 = .ok (.getfield 15, 3) := by decide +kernel
theorem dX0_addressAt_9 : decode cX0_addressAt 9 = .ok (.if_icmp .ge 12, 3) := by decide +kernel
theorem dX0_addressAt_12 : decode cX0_addressAt 12 = .ok (.aload_n 0, 1) := by decide +kernel
theorem dX0_addressAt_13 : decode cX0_addressAt 13 = .ok (.getfield 9, 3) := by decide +kernel
theorem dX0_addressAt_16 : decode cX0_addressAt 16 = .ok (.iload_n 1, 1) := by decide +kernel
theorem dX0_addressAt_17 : decode cX0_addressAt 17 = .ok (.iaload, 1) := by decide +kernel
theorem dX0_addressAt_18 : decode cX0_addressAt 18 = .ok (.goto 4, 3) := by decide +kernel
theorem dX0_addressAt_21 : decode cX0_addressAt 21 = .ok (.iconst (-1), 1) := by decide +kernel
theorem dX0_addressAt_22 : decode cX0_addressAt 22 = .ok (.ireturn, 1) := by decide +kernel
set_option maxRecDepth 20000 in
theorem ggX0_add_X0_placeOf : GoodIn wsX0_add wsX0_placeOf := goodIn_r _ [7, 1, 2, 8, 9] (by decide +kernel) (by decide +kernel)
set_option maxRecDepth 20000 in
theorem gX0_add_X0_placeOf : GoodIn wsX0_add (wsV RX0 19 RX0 yX0_placeOf wsX0_placeOf) := goodIn_app (goodIn_of _ (by decide +kernel)) ggX0_add_X0_placeOf
theorem dX0_add_0 : decode cX0_add 0 = .ok (.aload_n 0, 1) := by decide +kernel
theorem dX0_add_1 : decode cX0_add 1 = .ok (.iload_n 1, 1) := by decide +kernel
theorem dX0_add_2 : decode cX0_add 2 = .ok (.invokevirtual 19, 3) := by decide +kernel
theorem dX0_add_5 : decode cX0_add 5 = .ok (.iconst (-1), 1) := by decide +kernel
theorem dX0_add_6 : decode cX0_add 6 = .ok (.if_icmp .ne 32, 3) := by decide +kernel
theorem dX0_add_9 : decode cX0_add 9 = .ok (.aload_n 0, 1) := by decide +kernel
theorem dX0_add_10 : decode cX0_add 10 = .ok (.getfield 15, 3) := by decide +kernel
theorem dX0_add_13 : decode cX0_add 13 = .ok (.bipush 16, 2) := by decide +kernel
theorem dX0_add_15 : decode cX0_add 15 = .ok (.if_icmp .ge 23, 3) := by decide +kernel
theorem dX0_add_18 : decode cX0_add 18 = .ok (.aload_n 0, 1) := by decide +kernel
theorem dX0_add_19 : decode cX0_add 19 = .ok (.getfield 9, 3) := by decide +kernel
theorem dX0_add_22 : decode cX0_add 22 = .ok (.aload_n 0, 1) := by decide +kernel
theorem dX0_add_23 : decode cX0_add 23 = .ok (.getfield 15, 3) := by decide +kernel
theorem dX0_add_26 : decode cX0_add 26 = .ok (.iload_n 1, 1) := by decide +kernel
theorem dX0_add_27 : decode cX0_add 27 = .ok (.iastore, 1) := by decide +kernel
theorem dX0_add_28 : decode cX0_add 28 = .ok (.aload_n 0, 1) := by decide +kernel
theorem dX0_add_29 : decode cX0_add 29 = .ok (.dup, 1) := by decide +kernel
theorem dX0_add_30 : decode cX0_add 30 = .ok (.getfield 15, 3) := by decide +kernel
theorem dX0_add_33 : decode cX0_add 33 = .ok (.iconst 1, 1) := by decide +kernel
theorem dX0_add_34 : decode cX0_add 34 = .ok (.iadd, 1) := by decide +kernel
theorem dX0_add_35 : decode cX0_add 35 = .ok (.putfield 15, 3) := by decide +kernel
theorem dX0_add_38 : decode cX0_add 38 = .ok (.return_, 1) := by decide +kernel
theorem dX0_clear_0 : decode cX0_clear 0 = .ok (.aload_n 0, 1) := by decide +kernel
theorem dX0_clear_1 : decode cX0_clear 1 = .ok (.iconst 0, 1) := by decide +kernel
theorem dX0_clear_2 : decode cX0_clear 2 = .ok (.putfield 15, 3) := by decide +kernel
theorem dX0_clear_5 : decode cX0_clear 5 = .ok (.return_, 1) := by decide +kernel
set_option maxRecDepth 20000 in
theorem ggX0_drop_X0_placeOf : GoodIn wsX0_drop wsX0_placeOf := goodIn_r _ [7, 1, 2, 8, 9] (by decide +kernel) (by decide +kernel)
set_option maxRecDepth 20000 in
theorem gX0_drop_X0_placeOf : GoodIn wsX0_drop (wsV RX0 19 RX0 yX0_placeOf wsX0_placeOf) := goodIn_app (goodIn_of _ (by decide +kernel)) ggX0_drop_X0_placeOf
theorem dX0_drop_0 : decode cX0_drop 0 = .ok (.aload_n 0, 1) := by decide +kernel
theorem dX0_drop_1 : decode cX0_drop 1 = .ok (.iload_n 1, 1) := by decide +kernel
theorem dX0_drop_2 : decode cX0_drop 2 = .ok (.invokevirtual 19, 3) := by decide +kernel
theorem dX0_drop_5 : decode cX0_drop 5 = .ok (.istore_n 2, 1) := by decide +kernel
theorem dX0_drop_6 : decode cX0_drop 6 = .ok (.iload_n 2, 1) := by decide +kernel
theorem dX0_drop_7 : decode cX0_drop 7 = .ok (.iconst (-1), 1) := by decide +kernel
theorem dX0_drop_8 : decode cX0_drop 8 = .ok (.if_icmp .eq 45, 3) := by decide +kernel
theorem dX0_drop_11 : decode cX0_drop 11 = .ok (.iload_n 2, 1) := by decide +kernel
theorem dX0_drop_12 : decode cX0_drop 12 = .ok (.iconst 1, 1) := by decide +kernel
theorem dX0_drop_13 : decode cX0_drop 13 = .ok (.iadd, 1) := by decide +kernel
theorem dX0_drop_14 : decode cX0_drop 14 = .ok (.istore_n 3, 1) := by decide +kernel
theorem dX0_drop_15 : decode cX0_drop 15 = .ok (.iload_n 3, 1) := by decide +kernel
theorem dX0_drop_16 : decode cX0_drop 16 = .ok (.aload_n 0, 1) := by decide +kernel
theorem dX0_drop_17 : decode cX0_drop 17 = .ok (.getfield 15, 3) := by decide +kernel
theorem dX0_drop_20 : decode cX0_drop 20 = .ok (.if_icmp .ge 23, 3) := by decide +kernel
theorem dX0_drop_23 : decode cX0_drop 23 = .ok (.aload_n 0, 1) := by decide +kernel
theorem dX0_drop_24 : decode cX0_drop 24 = .ok (.getfield 9, 3) := by decide +kernel
theorem dX0_drop_27 : decode cX0_drop 27 = .ok (.iload_n 3, 1) := by decide +kernel
theorem dX0_drop_28 : decode cX0_drop 28 = .ok (.iconst 1, 1) := by decide +kernel
theorem dX0_drop_29 : decode cX0_drop 29 = .ok (.isub, 1) := by decide +kernel
theorem dX0_drop_30 : decode cX0_drop 30 = .ok (.aload_n 0, 1) := by decide +kernel
theorem dX0_drop_31 : decode cX0_drop 31 = .ok (.getfield 9, 3) := by decide +kernel
theorem dX0_drop_34 : decode cX0_drop 34 = .ok (.iload_n 3, 1) := by decide +kernel
theorem dX0_drop_35 : decode cX0_drop 35 = .ok (.iaload, 1) := by decide +kernel
theorem dX0_drop_36 : decode cX0_drop 36 = .ok (.iastore, 1) := by decide +kernel
theorem dX0_drop_37 : decode cX0_drop 37 = .ok (.iinc 3 1, 3) := by decide +kernel
theorem dX0_drop_40 : decode cX0_drop 40 = .ok (.goto (-25), 3) := by decide +kernel
theorem dX0_drop_43 : decode cX0_drop 43 = .ok (.aload_n 0, 1) := by decide +kernel
theorem dX0_drop_44 : decode cX0_drop 44 = .ok (.dup, 1) := by decide +kernel
theorem dX0_drop_45 : decode cX0_drop 45 = .ok (.getfield 15, 3) := by decide +kernel
theorem dX0_drop_48 : decode cX0_drop 48 = .ok (.iconst 1, 1) := by decide +kernel
theorem dX0_drop_49 : decode cX0_drop 49 = .ok (.isub, 1) := by decide +kernel
theorem dX0_drop_50 : decode cX0_drop 50 = .ok (.putfield 15, 3) := by decide +kernel
theorem dX0_drop_53 : decode cX0_drop 53 = .ok (.return_, 1) := by decide +kernel
theorem dX0_placeOf_0 : decode cX0_placeOf 0 = .ok (.iconst 0, 1) := by decide +kernel
theorem dX0_placeOf_1 : decode cX0_placeOf 1 = .ok (.istore_n 2, 1) := by decide +kernel
theorem dX0_placeOf_2 : decode cX0_placeOf 2 = .ok (.iload_n 2, 1) := by decide +kernel
theorem dX0_placeOf_3 : decode cX0_placeOf 3 = .ok (.aload_n 0, 1) := by decide +kernel
theorem dX0_placeOf_4 : decode cX0_placeOf 4 = .ok (.getfield 15, 3) := by decide +kernel
theorem dX0_placeOf_7 : decode cX0_placeOf 7 = .ok (.if_icmp .ge 21, 3) := by decide +kernel
theorem dX0_placeOf_10 : decode cX0_placeOf 10 = .ok (.aload_n 0, 1) := by decide +kernel
theorem dX0_placeOf_11 : decode cX0_placeOf 11 = .ok (.getfield 9, 3) := by decide +kernel
theorem dX0_placeOf_14 : decode cX0_placeOf 14 = .ok (.iload_n 2, 1) := by decide +kernel
theorem dX0_placeOf_15 : decode cX0_placeOf 15 = .ok (.iaload, 1) := by decide +kernel
theorem dX0_placeOf_16 : decode cX0_placeOf 16 = .ok (.iload_n 1, 1) := by decide +kernel
theorem dX0_placeOf_17 : decode cX0_placeOf 17 = .ok (.if_icmp .ne 5, 3) := by decide +kernel
theorem dX0_placeOf_20 : decode cX0_placeOf 20 = .ok (.iload_n 2, 1) := by decide +kernel
theorem dX0_placeOf_21 : decode cX0_placeOf 21 = .ok (.ireturn, 1) := by decide +kernel
theorem dX0_placeOf_22 : decode cX0_placeOf 22 = .ok (.iinc 2 1, 3) := by decide +kernel
theorem dX0_placeOf_25 : decode cX0_placeOf 25 = .ok (.goto (-23), 3) := by decide +kernel
theorem dX0_placeOf_28 : decode cX0_placeOf 28 = .ok (.iconst (-1), 1) := by decide +kernel
theorem dX0_placeOf_29 : decode cX0_placeOf 29 = .ok (.ireturn, 1) := by decide +kernel
set_option maxRecDepth 20000 in
theorem ggX1_init_X0_init : GoodIn wsX1_init wsX0_init := goodIn_r _ [19, 20, 2, 3, 21, 22, 23, 24, 25] (by decide +kernel) (by decide +kernel)
set_option maxRecDepth 20000 in
theorem gX1_init_X0_init_n11 : GoodIn wsX1_init (wsX0_init) := ggX1_init_X0_init
theorem dX1_init_0 : decode cX1_init 0 = .ok (.aload_n 0, 1) := by decide +kernel
theorem dX1_init_1 : decode cX1_init 1 = .ok (.invokespecial 3, 3) := by decide +kernel
theorem dX1_init_4 : decode cX1_init 4 = .ok (.aload_n 0, 1) := by decide +kernel
theorem dX1_init_5 : decode cX1_init 5 = .ok (.new 9, 3) := by decide +kernel
theorem dX1_init_8 : decode cX1_init 8 = .ok (.dup, 1) := by decide +kernel
theorem dX1_init_9 : decode cX1_init 9 = .ok (.invokespecial 11, 3) := by decide +kernel
theorem dX1_init_12 : decode cX1_init 12 = .ok (.putfield 12, 3) := by decide +kernel
theorem dX1_init_15 : decode cX1_init 15 = .ok (.aload_n 0, 1) := by decide +kernel
theorem dX1_init_16 : decode cX1_init 16 = .ok (.iconst 0, 1) := by decide +kernel
theorem dX1_init_17 : decode cX1_init 17 = .ok (.putfield 18, 3) := by decide +kernel
theorem dX1_init_20 : decode cX1_init 20 = .ok (.aload_n 0, 1) := by decide +kernel
theorem dX1_init_21 : decode cX1_init 21 = .ok (.iconst 0, 1) := by decide +kernel
theorem dX1_init_22 : decode cX1_init 22 = .ok (.putfield 22, 3) := by decide +kernel
theorem dX1_init_25 : decode cX1_init 25 = .ok (.aload_n 0, 1) := by decide +kernel
theorem dX1_init_26 : decode cX1_init 26 = .ok (.iconst (-1), 1) := by decide +kernel
theorem dX1_init_27 : decode cX1_init 27 = .ok (.putfield 25, 3) := by decide +kernel
theorem dX1_init_30 : decode cX1_init 30 = .ok (.aload_n 0, 1) := by decide +kernel
theorem dX1_init_31 : decode cX1_init 31 = .ok (.iconst 0, 1) := by decide +kernel
theorem dX1_init_32 : decode cX1_init 32 = .ok (.putfield 28, 3) := by decide +kernel
theorem dX1_init_35 : decode cX1_init 35 = .ok (.aload_n 0, 1) := by decide +kernel
theorem dX1_init_36 : decode cX1_init 36 = .ok (.iconst (-1), 1) := by decide +kernel
theorem dX1_init_37 : decode cX1_init 37 = .ok (.putfield 31, 3) := by decide +kernel
theorem dX1_init_40 : decode cX1_init 40 = .ok (.aload_n 0, 1) := by decide +kernel
theorem dX1_init_41 : decode cX1_init 41 = .ok (.iconst 0, 1) := by decide +kernel
theorem dX1_init_42 : decode cX1_init 42 = .ok (.putfield 34, 3) := by decide +kernel
theorem dX1_init_45 : decode cX1_init 45 = .ok (.aload_n 0, 1) := by decide +kernel
theorem dX1_init_46 : decode cX1_init 46 = .ok (.iconst 0, 1) := by decide +kernel
theorem dX1_init_47 : decode cX1_init 47 = .ok (.putfield 37, 3) := by decide +kernel
theorem dX1_init_50 : decode cX1_init 50 = .ok (.aload_n 0, 1) := by decide +kernel
theorem dX1_init_51 : decode cX1_init 51 = .ok (.iconst (-1), 1) := by decide +kernel
theorem dX1_init_52 : decode cX1_init 52 = .ok (.putfield 40, 3) := by decide +kernel
theorem dX1_init_55 : decode cX1_init 55 = .ok (.aload_n 0, 1) := by decide +kernel
theorem dX1_init_56 : decode cX1_init 56 = .ok (.iconst 0, 1) := by decide +kernel
theorem dX1_init_57 : decode cX1_init 57 = .ok (.putfield 43, 3) := by decide +kernel
theorem dX1_init_60 : decode cX1_init 60 = .ok (.aload_n 0, 1) := by decide +kernel
theorem dX1_init_61 : decode cX1_init 61 = .ok (.iload_n 1, 1) := by decide +kernel
theorem dX1_init_62 : decode cX1_init 62 = .ok (.putfield 46, 3) := by decide +kernel
theorem dX1_init_65 : decode cX1_init 65 = .ok (.return_, 1) := by decide +kernel
theorem dX1_bit_0 : decode cX1_bit 0 = .ok (.iconst 1, 1) := by decide +kernel
theorem dX1_bit_1 : decode cX1_bit 1 = .ok (.aload_n 0, 1) := by decide +kernel
theorem dX1_bit_2 : decode cX1_bit 2 = .ok (.getfield 46, 3) := by decide +kernel
theorem dX1_bit_5 : decode cX1_bit 5 = .ok (.ishl, 1) := by decide +kernel
theorem dX1_bit_6 : decode cX1_bit 6 = .ok (.ireturn, 1) := by decide +kernel
theorem dX1_isQueued_0 : decode cX1_isQueued 0 = .ok (.aload_n 0, 1) := by decide +kernel
theorem dX1_isQueued_1 : decode cX1_isQueued 1 = .ok (.getfield 25, 3) := by decide +kernel
theorem dX1_isQueued_4 : decode cX1_isQueued 4 = .ok (.iconst (-1), 1) := by decide +kernel
theorem dX1_isQueued_5 : decode cX1_isQueued 5 = .ok (.if_icmp .eq 7, 3) := by decide +kernel
theorem dX1_isQueued_8 : decode cX1_isQueued 8 = .ok (.iconst 1, 1) := by decide +kernel
theorem dX1_isQueued_9 : decode cX1_isQueued 9 = .ok (.goto 4, 3) := by decide +kernel
theorem dX1_isQueued_12 : decode cX1_isQueued 12 = .ok (.iconst 0, 1) := by decide +kernel
theorem dX1_isQueued_13 : decode cX1_isQueued 13 = .ok (.ireturn, 1) := by decide +kernel
theorem dX1_isAheadOf_0 : decode cX1_isAheadOf 0 = .ok (.aload_n 0, 1) := by decide +kernel
theorem dX1_isAheadOf_1 : decode cX1_isAheadOf 1 = .ok (.getfield 22, 3) := by decide +kernel
theorem dX1_isAheadOf_4 : decode cX1_isAheadOf 4 = .ok (.aload_n 1, 1) := by decide +kernel
theorem dX1_isAheadOf_5 : decode cX1_isAheadOf 5 = .ok (.getfield 22, 3) := by decide +kernel
theorem dX1_isAheadOf_8 : decode cX1_isAheadOf 8 = .ok (.if_icmp .gt 25, 3) := by decide +kernel
theorem dX1_isAheadOf_11 : decode cX1_isAheadOf 11 = .ok (.aload_n 0, 1) := by decide +kernel
theorem dX1_isAheadOf_12 : decode cX1_isAheadOf 12 = .ok (.getfield 22, 3) := by decide +kernel
theorem dX1_isAheadOf_15 : decode cX1_isAheadOf 15 = .ok (.aload_n 1, 1) := by decide +kernel
theorem dX1_isAheadOf_16 : decode cX1_isAheadOf 16 = .ok (.getfield 22, 3) := by decide +kernel
theorem dX1_isAheadOf_19 : decode cX1_isAheadOf 19 = .ok (.if_icmp .ne 18, 3) := by decide +kernel
theorem dX1_isAheadOf_22 : decode cX1_isAheadOf 22 = .ok (.aload_n 0, 1) := by decide +kernel
theorem dX1_isAheadOf_23 : decode cX1_isAheadOf 23 = .ok (.getfield 37, 3) := by decide +kernel
theorem dX1_isAheadOf_26 : decode cX1_isAheadOf 26 = .ok (.aload_n 1, 1) := by decide +kernel
theorem dX1_isAheadOf_27 : decode cX1_isAheadOf 27 = .ok (.getfield 37, 3) := by decide +kernel
theorem dX1_isAheadOf_30 : decode cX1_isAheadOf 30 = .ok (.if_icmp .ge 7, 3) := by decide +kernel
theorem dX1_isAheadOf_33 : decode cX1_isAheadOf 33 = .ok (.iconst 1, 1) := by decide +kernel
theorem dX1_isAheadOf_34 : decode cX1_isAheadOf 34 = .ok (.goto 4, 3) := by decide +kernel
theorem dX1_isAheadOf_37 : decode cX1_isAheadOf 37 = .ok (.iconst 0, 1) := by decide +kernel
theorem dX1_isAheadOf_38 : decode cX1_isAheadOf 38 = .ok (.ireturn, 1) := by decide +kernel
theorem dX1_timesOutBefore_0 : decode cX1_timesOutBefore 0 = .ok (.aload_n 0, 1) := by decide +kernel
theorem dX1_timesOutBefore_1 : decode cX1_timesOutBefore 1 = .ok (.getfield 31, 3) := by decide +kernel
theorem dX1_timesOutBefore_4 : decode cX1_timesOutBefore 4 = .ok (.aload_n 1, 1) := by decide +kernel
theorem dX1_timesOutBefore_5 : decode cX1_timesOutBefore 5 = .ok (.getfield 31, 3) := by decide +kernel
theorem dX1_timesOutBefore_8 : decode cX1_timesOutBefore 8 = .ok (.if_icmp .lt 25, 3) := by decide +kernel
theorem dX1_timesOutBefore_11 : decode cX1_timesOutBefore 11 = .ok (.aload_n 0, 1) := by decide +kernel
theorem dX1_timesOutBefore_12 : decode cX1_timesOutBefore 12 = .ok (.getfield 31, 3) := by decide +kernel
theorem dX1_timesOutBefore_15 : decode cX1_timesOutBefore 15 = .ok (.aload_n 1, 1) := by decide +kernel
theorem dX1_timesOutBefore_16 : decode cX1_timesOutBefore 16 = .ok (.getfield 31, 3) := by decide +kernel
theorem dX1_timesOutBefore_19 : decode cX1_timesOutBefore 19 = .ok (.if_icmp .ne 18, 3) := by decide +kernel
theorem dX1_timesOutBefore_22 : decode cX1_timesOutBefore 22 = .ok (.aload_n 0, 1) := by decide +kernel
theorem dX1_timesOutBefore_23 : decode cX1_timesOutBefore 23 = .ok (.getfield 34, 3) := by decide +kernel
theorem dX1_timesOutBefore_26 : decode cX1_timesOutBefore 26 = .ok (.aload_n 1, 1) := by decide +kernel
theorem dX1_timesOutBefore_27 : decode cX1_timesOutBefore 27 = .ok (.getfield 34, 3) := by decide +kernel
theorem dX1_timesOutBefore_30 : decode cX1_timesOutBefore 30 = .ok (.if_icmp .ge 7, 3) := by decide +kernel
theorem dX1_timesOutBefore_33 : decode cX1_timesOutBefore 33 = .ok (.iconst 1, 1) := by decide +kernel
theorem dX1_timesOutBefore_34 : decode cX1_timesOutBefore 34 = .ok (.goto 4, 3) := by decide +kernel
theorem dX1_timesOutBefore_37 : decode cX1_timesOutBefore 37 = .ok (.iconst 0, 1) := by decide +kernel
theorem dX1_timesOutBefore_38 : decode cX1_timesOutBefore 38 = .ok (.ireturn, 1) := by decide +kernel
set_option maxRecDepth 20000 in
theorem ggX2_init_X1_init : GoodIn wsX2_init wsX1_init := goodIn_r _ [16, 17, 2, 3, 18, 19, 20, 21, 22, 23, 24, 25, 26, 27, 28, 29, 30, 31, 32, 33, 34, 4, 35, 36, 54, 55, 43, 44, 45, 46, 47, 48, 49, 50, 51, 52, 53] (by decide +kernel) (by decide +kernel)
set_option maxRecDepth 20000 in
theorem gX2_init_X1_init : GoodIn wsX2_init (wsX1_init) := ggX2_init_X1_init
theorem dX2_init_0 : decode cX2_init 0 = .ok (.aload_n 0, 1) := by decide +kernel
theorem dX2_init_1 : decode cX2_init 1 = .ok (.invokespecial 1, 3) := by decide +kernel
theorem dX2_init_4 : decode cX2_init 4 = .ok (.aload_n 0, 1) := by decide +kernel
theorem dX2_init_5 : decode cX2_init 5 = .ok (.bipush 16, 2) := by decide +kernel
theorem dX2_init_7 : decode cX2_init 7 = .ok (.newarray .int, 2) := by decide +kernel
theorem dX2_init_9 : decode cX2_init 9 = .ok (.putfield 9, 3) := by decide +kernel
theorem dX2_init_12 : decode cX2_init 12 = .ok (.aload_n 0, 1) := by decide +kernel
theorem dX2_init_13 : decode cX2_init 13 = .ok (.bipush 8, 2) := by decide +kernel
theorem dX2_init_15 : decode cX2_init 15 = .ok (.anewarray 13, 3) := by decide +kernel
theorem dX2_init_18 : decode cX2_init 18 = .ok (.putfield 15, 3) := by decide +kernel
theorem dX2_init_21 : decode cX2_init 21 = .ok (.aload_n 0, 1) := by decide +kernel
theorem dX2_init_22 : decode cX2_init 22 = .ok (.iconst 0, 1) := by decide +kernel
theorem dX2_init_23 : decode cX2_init 23 = .ok (.putfield 19, 3) := by decide +kernel
theorem dX2_init_26 : decode cX2_init 26 = .ok (.aload_n 0, 1) := by decide +kernel
theorem dX2_init_27 : decode cX2_init 27 = .ok (.iconst 0, 1) := by decide +kernel
theorem dX2_init_28 : decode cX2_init 28 = .ok (.putfield 23, 3) := by decide +kernel
theorem dX2_init_31 : decode cX2_init 31 = .ok (.aload_n 0, 1) := by decide +kernel
theorem dX2_init_32 : decode cX2_init 32 = .ok (.iconst 0, 1) := by decide +kernel
theorem dX2_init_33 : decode cX2_init 33 = .ok (.putfield 26, 3) := by decide +kernel
theorem dX2_init_36 : decode cX2_init 36 = .ok (.aload_n 0, 1) := by decide +kernel
theorem dX2_init_37 : decode cX2_init 37 = .ok (.iconst 0, 1) := by decide +kernel
theorem dX2_init_38 : decode cX2_init 38 = .ok (.putfield 29, 3) := by decide +kernel
theorem dX2_init_41 : decode cX2_init 41 = .ok (.iconst 0, 1) := by decide +kernel
theorem dX2_init_42 : decode cX2_init 42 = .ok (.istore_n 1, 1) := by decide +kernel
theorem dX2_init_43 : decode cX2_init 43 = .ok (.iload_n 1, 1) := by decide +kernel
theorem dX2_init_44 : decode cX2_init 44 = .ok (.bipush 8, 2) := by decide +kernel
theorem dX2_init_46 : decode cX2_init 46 = .ok (.if_icmp .ge 23, 3) := by decide +kernel
theorem dX2_init_49 : decode cX2_init 49 = .ok (.aload_n 0, 1) := by decide +kernel
theorem dX2_init_50 : decode cX2_init 50 = .ok (.getfield 15, 3) := by decide +kernel
theorem dX2_init_53 : decode cX2_init 53 = .ok (.iload_n 1, 1) := by decide +kernel
theorem dX2_init_54 : decode cX2_init 54 = .ok (.new 13, 3) := by decide +kernel
theorem dX2_init_57 : decode cX2_init 57 = .ok (.dup, 1) := by decide +kernel
theorem dX2_init_58 : decode cX2_init 58 = .ok (.iload_n 1, 1) := by decide +kernel
theorem dX2_init_59 : decode cX2_init 59 = .ok (.invokespecial 32, 3) := by decide +kernel
theorem dX2_init_62 : decode cX2_init 62 = .ok (.aastore, 1) := by decide +kernel
theorem dX2_init_63 : decode cX2_init 63 = .ok (.iinc 1 1, 3) := by decide +kernel
theorem dX2_init_66 : decode cX2_init 66 = .ok (.goto (-23), 3) := by decide +kernel
theorem dX2_init_69 : decode cX2_init 69 = .ok (.return_, 1) := by decide +kernel
set_option maxRecDepth 20000 in
theorem ggX2_store_X2_taskOf : GoodIn wsX2_store wsX2_taskOf := goodIn_ca (goodIn_r _ [6, 7, 8, 9, 22, 23, 24, 25, 26, 27] (by decide +kernel) (by decide +kernel)) (goodIn_sub (fun _ h => List.mem_cons_of_mem _ (List.mem_append_left _ (List.mem_append_right _ h))) (by decide +kernel))
set_option maxRecDepth 20000 in
theorem gX2_store_X2_taskOf : GoodIn wsX2_store (wsV RX2 35 RX2 yX2_taskOf wsX2_taskOf) := goodIn_app (goodIn_of _ (by decide +kernel)) ggX2_store_X2_taskOf
set_option maxRecDepth 20000 in
theorem ggX2_store_X2_requireAddress : GoodIn wsX2_store wsX2_requireAddress := goodIn_ca (goodIn_r _ [12, 7, 8, 13, 14, 5, 15] (by decide +kernel) (by decide +kernel)) (goodIn_sub (fun _ h => List.mem_cons_of_mem _ (List.mem_append_left _ (List.mem_append_right _ h))) (by decide +kernel))
set_option maxRecDepth 20000 in
theorem gX2_store_X2_requireAddress : GoodIn wsX2_store (va_wsS RX2 39 yX2_requireAddress wsX2_requireAddress) := goodIn_app (goodIn_of _ (by decide +kernel)) ggX2_store_X2_requireAddress
set_option maxRecDepth 20000 in
theorem ggX2_store_X2_requireRunning : GoodIn wsX2_store wsX2_requireRunning := goodIn_ca (goodIn_r _ [18, 19, 20, 21, 28, 29, 30, 31, 32, 33, 34, 35, 36, 37, 38] (by decide +kernel) (by decide +kernel)) (goodIn_sub (fun _ h => List.mem_cons_of_mem _ (List.mem_append_right _ h)) (by decide +kernel))
set_option maxRecDepth 20000 in
theorem gX2_store_X2_requireRunning : GoodIn wsX2_store (va_wsS RX2 42 yX2_requireRunning wsX2_requireRunning) := goodIn_app (goodIn_of _ (by decide +kernel)) ggX2_store_X2_requireRunning
theorem dX2_store_0 : decode cX2_store 0 = .ok (.aload_n 0, 1) := by decide +kernel
theorem dX2_store_1 : decode cX2_store 1 = .ok (.iload_n 1, 1) := by decide +kernel
theorem dX2_store_2 : decode cX2_store 2 = .ok (.invokevirtual 35, 3) := by decide +kernel
theorem dX2_store_5 : decode cX2_store 5 = .ok (.astore 4, 2) := by decide +kernel
theorem dX2_store_7 : decode cX2_store 7 = .ok (.iload_n 2, 1) := by decide +kernel
theorem dX2_store_8 : decode cX2_store 8 = .ok (.invokestatic 39, 3) := by decide +kernel
theorem dX2_store_11 : decode cX2_store 11 = .ok (.aload 4, 2) := by decide +kernel
theorem dX2_store_13 : decode cX2_store 13 = .ok (.invokestatic 42, 3) := by decide +kernel
theorem dX2_store_16 : decode cX2_store 16 = .ok (.aload_n 0, 1) := by decide +kernel
theorem dX2_store_17 : decode cX2_store 17 = .ok (.getfield 9, 3) := by decide +kernel
theorem dX2_store_20 : decode cX2_store 20 = .ok (.iload_n 2, 1) := by decide +kernel
theorem dX2_store_21 : decode cX2_store 21 = .ok (.iaload, 1) := by decide +kernel
theorem dX2_store_22 : decode cX2_store 22 = .ok (.istore 5, 2) := by decide +kernel
theorem dX2_store_24 : decode cX2_store 24 = .ok (.aload_n 0, 1) := by decide +kernel
theorem dX2_store_25 : decode cX2_store 25 = .ok (.getfield 9, 3) := by decide +kernel
theorem dX2_store_28 : decode cX2_store 28 = .ok (.iload_n 2, 1) := by decide +kernel
theorem dX2_store_29 : decode cX2_store 29 = .ok (.iload_n 3, 1) := by decide +kernel
theorem dX2_store_30 : decode cX2_store 30 = .ok (.iastore, 1) := by decide +kernel
theorem dX2_store_31 : decode cX2_store 31 = .ok (.iload 5, 2) := by decide +kernel
theorem dX2_store_33 : decode cX2_store 33 = .ok (.ireturn, 1) := by decide +kernel
set_option maxRecDepth 20000 in
theorem ggX2_compareAndSet_X2_taskOf : GoodIn wsX2_compareAndSet wsX2_taskOf := goodIn_ca (goodIn_r _ [6, 7, 8, 9, 22, 23, 24, 25, 26, 27] (by decide +kernel) (by decide +kernel)) (goodIn_sub (fun _ h => List.mem_cons_of_mem _ (List.mem_append_left _ (List.mem_append_right _ h))) (by decide +kernel))
set_option maxRecDepth 20000 in
theorem gX2_compareAndSet_X2_taskOf : GoodIn wsX2_compareAndSet (wsV RX2 35 RX2 yX2_taskOf wsX2_taskOf) := goodIn_app (goodIn_of _ (by decide +kernel)) ggX2_compareAndSet_X2_taskOf
set_option maxRecDepth 20000 in
theorem ggX2_compareAndSet_X2_requireAddress : GoodIn wsX2_compareAndSet wsX2_requireAddress := goodIn_ca (goodIn_r _ [12, 7, 8, 13, 14, 5, 15] (by decide +kernel) (by decide +kernel)) (goodIn_sub (fun _ h => List.mem_cons_of_mem _ (List.mem_append_left _ (List.mem_append_right _ h))) (by decide +kernel))
set_option maxRecDepth 20000 in
theorem gX2_compareAndSet_X2_requireAddress : GoodIn wsX2_compareAndSet (va_wsS RX2 39 yX2_requireAddress wsX2_requireAddress) := goodIn_app (goodIn_of _ (by decide +kernel)) ggX2_compareAndSet_X2_requireAddress
set_option maxRecDepth 20000 in
theorem ggX2_compareAndSet_X2_requireRunning : GoodIn wsX2_compareAndSet wsX2_requireRunning := goodIn_ca (goodIn_r _ [18, 19, 20, 21, 28, 29, 30, 31, 32, 33, 34, 35, 36, 37, 38] (by decide +kernel) (by decide +kernel)) (goodIn_sub (fun _ h => List.mem_cons_of_mem _ (List.mem_append_right _ h)) (by decide +kernel))
set_option maxRecDepth 20000 in
theorem gX2_compareAndSet_X2_requireRunning : GoodIn wsX2_compareAndSet (va_wsS RX2 42 yX2_requireRunning wsX2_requireRunning) := goodIn_app (goodIn_of _ (by decide +kernel)) ggX2_compareAndSet_X2_requireRunning
theorem dX2_compareAndSet_0 : decode cX2_compareAndSet 0 = .ok (.aload_n 0, 1) := by decide +kernel
theorem dX2_compareAndSet_1 : decode cX2_compareAndSet 1 = .ok (.iload_n 1, 1) := by decide +kernel
theorem dX2_compareAndSet_2 : decode cX2_compareAndSet 2 = .ok (.invokevirtual 35, 3) := by decide +kernel
theorem dX2_compareAndSet_5 : decode cX2_compareAndSet 5 = .ok (.astore 5, 2) := by decide +kernel
theorem dX2_compareAndSet_7 : decode cX2_compareAndSet 7 = .ok (.iload_n 2, 1) := by decide +kernel
theorem dX2_compareAndSet_8 : decode cX2_compareAndSet 8 = .ok (.invokestatic 39, 3) := by decide +kernel
theorem dX2_compareAndSet_11 : decode cX2_compareAndSet 11 = .ok (.aload 5, 2) := by decide +kernel
theorem dX2_compareAndSet_13 : decode cX2_compareAndSet 13 = .ok (.invokestatic 42, 3) := by decide +kernel
theorem dX2_compareAndSet_16 : decode cX2_compareAndSet 16 = .ok (.aload_n 0, 1) := by decide +kernel
theorem dX2_compareAndSet_17 : decode cX2_compareAndSet 17 = .ok (.getfield 9, 3) := by decide +kernel
theorem dX2_compareAndSet_20 : decode cX2_compareAndSet 20 = .ok (.iload_n 2, 1) := by decide +kernel
theorem dX2_compareAndSet_21 : decode cX2_compareAndSet 21 = .ok (.iaload, 1) := by decide +kernel
theorem dX2_compareAndSet_22 : decode cX2_compareAndSet 22 = .ok (.iload_n 3, 1) := by decide +kernel
theorem dX2_compareAndSet_23 : decode cX2_compareAndSet 23 = .ok (.if_icmp .eq 5, 3) := by decide +kernel
theorem dX2_compareAndSet_26 : decode cX2_compareAndSet 26 = .ok (.iconst 0, 1) := by decide +kernel
theorem dX2_compareAndSet_27 : decode cX2_compareAndSet 27 = .ok (.ireturn, 1) := by decide +kernel
theorem dX2_compareAndSet_28 : decode cX2_compareAndSet 28 = .ok (.aload_n 0, 1) := by decide +kernel
theorem dX2_compareAndSet_29 : decode cX2_compareAndSet 29 = .ok (.getfield 9, 3) := by decide +kernel
theorem dX2_compareAndSet_32 : decode cX2_compareAndSet 32 = .ok (.iload_n 2, 1) := by decide +kernel
theorem dX2_compareAndSet_33 : decode cX2_compareAndSet 33 = .ok (.iload 4, 2) := by decide +kernel
theorem dX2_compareAndSet_35 : decode cX2_compareAndSet 35 = .ok (.iastore, 1) := by decide +kernel
theorem dX2_compareAndSet_36 : decode cX2_compareAndSet 36 = .ok (.iconst 1, 1) := by decide +kernel
theorem dX2_compareAndSet_37 : decode cX2_compareAndSet 37 = .ok (.ireturn, 1) := by decide +kernel
set_option maxRecDepth 20000 in
theorem ggX2_fetchAdd_X2_taskOf : GoodIn wsX2_fetchAdd wsX2_taskOf := goodIn_ca (goodIn_r _ [6, 7, 8, 9, 22, 23, 24, 25, 26, 27] (by decide +kernel) (by decide +kernel)) (goodIn_sub (fun _ h => List.mem_cons_of_mem _ (List.mem_append_left _ (List.mem_append_right _ h))) (by decide +kernel))
set_option maxRecDepth 20000 in
theorem gX2_fetchAdd_X2_taskOf : GoodIn wsX2_fetchAdd (wsV RX2 35 RX2 yX2_taskOf wsX2_taskOf) := goodIn_app (goodIn_of _ (by decide +kernel)) ggX2_fetchAdd_X2_taskOf
set_option maxRecDepth 20000 in
theorem ggX2_fetchAdd_X2_requireAddress : GoodIn wsX2_fetchAdd wsX2_requireAddress := goodIn_ca (goodIn_r _ [12, 7, 8, 13, 14, 5, 15] (by decide +kernel) (by decide +kernel)) (goodIn_sub (fun _ h => List.mem_cons_of_mem _ (List.mem_append_left _ (List.mem_append_right _ h))) (by decide +kernel))
set_option maxRecDepth 20000 in
theorem gX2_fetchAdd_X2_requireAddress : GoodIn wsX2_fetchAdd (va_wsS RX2 39 yX2_requireAddress wsX2_requireAddress) := goodIn_app (goodIn_of _ (by decide +kernel)) ggX2_fetchAdd_X2_requireAddress
set_option maxRecDepth 20000 in
theorem ggX2_fetchAdd_X2_requireRunning : GoodIn wsX2_fetchAdd wsX2_requireRunning := goodIn_ca (goodIn_r _ [18, 19, 20, 21, 28, 29, 30, 31, 32, 33, 34, 35, 36, 37, 38] (by decide +kernel) (by decide +kernel)) (goodIn_sub (fun _ h => List.mem_cons_of_mem _ (List.mem_append_right _ h)) (by decide +kernel))
set_option maxRecDepth 20000 in
theorem gX2_fetchAdd_X2_requireRunning : GoodIn wsX2_fetchAdd (va_wsS RX2 42 yX2_requireRunning wsX2_requireRunning) := goodIn_app (goodIn_of _ (by decide +kernel)) ggX2_fetchAdd_X2_requireRunning
theorem dX2_fetchAdd_0 : decode cX2_fetchAdd 0 = .ok (.aload_n 0, 1) := by decide +kernel
theorem dX2_fetchAdd_1 : decode cX2_fetchAdd 1 = .ok (.iload_n 1, 1) := by decide +kernel
theorem dX2_fetchAdd_2 : decode cX2_fetchAdd 2 = .ok (.invokevirtual 35, 3) := by decide +kernel
theorem dX2_fetchAdd_5 : decode cX2_fetchAdd 5 = .ok (.astore 4, 2) := by decide +kernel
theorem dX2_fetchAdd_7 : decode cX2_fetchAdd 7 = .ok (.iload_n 2, 1) := by decide +kernel
theorem dX2_fetchAdd_8 : decode cX2_fetchAdd 8 = .ok (.invokestatic 39, 3) := by decide +kernel
theorem dX2_fetchAdd_11 : decode cX2_fetchAdd 11 = .ok (.aload 4, 2) := by decide +kernel
theorem dX2_fetchAdd_13 : decode cX2_fetchAdd 13 = .ok (.invokestatic 42, 3) := by decide +kernel
theorem dX2_fetchAdd_16 : decode cX2_fetchAdd 16 = .ok (.aload_n 0, 1) := by decide +kernel
theorem dX2_fetchAdd_17 : decode cX2_fetchAdd 17 = .ok (.getfield 9, 3) := by decide +kernel
theorem dX2_fetchAdd_20 : decode cX2_fetchAdd 20 = .ok (.iload_n 2, 1) := by decide +kernel
theorem dX2_fetchAdd_21 : decode cX2_fetchAdd 21 = .ok (.iaload, 1) := by decide +kernel
theorem dX2_fetchAdd_22 : decode cX2_fetchAdd 22 = .ok (.istore 5, 2) := by decide +kernel
theorem dX2_fetchAdd_24 : decode cX2_fetchAdd 24 = .ok (.aload_n 0, 1) := by decide +kernel
theorem dX2_fetchAdd_25 : decode cX2_fetchAdd 25 = .ok (.getfield 9, 3) := by decide +kernel
theorem dX2_fetchAdd_28 : decode cX2_fetchAdd 28 = .ok (.iload_n 2, 1) := by decide +kernel
theorem dX2_fetchAdd_29 : decode cX2_fetchAdd 29 = .ok (.iload 5, 2) := by decide +kernel
theorem dX2_fetchAdd_31 : decode cX2_fetchAdd 31 = .ok (.iload_n 3, 1) := by decide +kernel
theorem dX2_fetchAdd_32 : decode cX2_fetchAdd 32 = .ok (.iadd, 1) := by decide +kernel
theorem dX2_fetchAdd_33 : decode cX2_fetchAdd 33 = .ok (.iastore, 1) := by decide +kernel
theorem dX2_fetchAdd_34 : decode cX2_fetchAdd 34 = .ok (.iload 5, 2) := by decide +kernel
theorem dX2_fetchAdd_36 : decode cX2_fetchAdd 36 = .ok (.ireturn, 1) := by decide +kernel
set_option maxRecDepth 20000 in
theorem ggX2_word_X2_requireAddress : GoodIn wsX2_word wsX2_requireAddress := goodIn_ca (goodIn_r _ [5, 6, 7, 8, 9, 4, 10] (by decide +kernel) (by decide +kernel)) (goodIn_sub (fun _ h => List.mem_cons_of_mem _ (List.mem_append_right _ h)) (by decide +kernel))
set_option maxRecDepth 20000 in
theorem gX2_word_X2_requireAddress : GoodIn wsX2_word (va_wsS RX2 39 yX2_requireAddress wsX2_requireAddress) := goodIn_app (goodIn_of _ (by decide +kernel)) ggX2_word_X2_requireAddress
theorem dX2_word_0 : decode cX2_word 0 = .ok (.iload_n 1, 1) := by decide +kernel
theorem dX2_word_1 : decode cX2_word 1 = .ok (.invokestatic 39, 3) := by decide +kernel
theorem dX2_word_4 : decode cX2_word 4 = .ok (.aload_n 0, 1) := by decide +kernel
theorem dX2_word_5 : decode cX2_word 5 = .ok (.getfield 9, 3) := by decide +kernel
theorem dX2_word_8 : decode cX2_word 8 = .ok (.iload_n 1, 1) := by decide +kernel
theorem dX2_word_9 : decode cX2_word 9 = .ok (.iaload, 1) := by decide +kernel
theorem dX2_word_10 : decode cX2_word 10 = .ok (.ireturn, 1) := by decide +kernel
set_option maxRecDepth 20000 in
theorem ggX2_await_X2_taskOf : GoodIn wsX2_await wsX2_taskOf := goodIn_ca (goodIn_r _ [6, 7, 8, 9, 43, 44, 45, 46, 47, 48] (by decide +kernel) (by decide +kernel)) (goodIn_sub (fun _ h => List.mem_cons_of_mem _ (List.mem_append_left _ (List.mem_append_left _ (List.mem_append_right _ h)))) (by decide +kernel))
set_option maxRecDepth 20000 in
theorem gX2_await_X2_taskOf : GoodIn wsX2_await (wsV RX2 35 RX2 yX2_taskOf wsX2_taskOf) := goodIn_app (goodIn_of _ (by decide +kernel)) ggX2_await_X2_taskOf
set_option maxRecDepth 20000 in
theorem ggX2_await_X2_requireAddress : GoodIn wsX2_await wsX2_requireAddress := goodIn_ca (goodIn_r _ [12, 7, 8, 13, 14, 5, 15] (by decide +kernel) (by decide +kernel)) (goodIn_sub (fun _ h => List.mem_cons_of_mem _ (List.mem_append_left _ (List.mem_append_left _ (List.mem_append_right _ h)))) (by decide +kernel))
set_option maxRecDepth 20000 in
theorem gX2_await_X2_requireAddress : GoodIn wsX2_await (va_wsS RX2 39 yX2_requireAddress wsX2_requireAddress) := goodIn_app (goodIn_of _ (by decide +kernel)) ggX2_await_X2_requireAddress
set_option maxRecDepth 20000 in
theorem ggX2_await_X2_requireBetween : GoodIn wsX2_await wsX2_requireBetween := goodIn_ca (goodIn_r _ [18, 19, 20] (by decide +kernel) (by decide +kernel)) (goodIn_sub (fun _ h => List.mem_cons_of_mem _ (List.mem_append_left _ (List.mem_append_right _ h))) (by decide +kernel))
set_option maxRecDepth 20000 in
theorem gX2_await_X2_requireBetween : GoodIn wsX2_await (va_wsS RX2 46 yX2_requireBetween wsX2_requireBetween) := goodIn_app (goodIn_of _ (by decide +kernel)) ggX2_await_X2_requireBetween
set_option maxRecDepth 20000 in
theorem ggX2_await_X2_requireRunning : GoodIn wsX2_await wsX2_requireRunning := goodIn_ca (goodIn_r _ [23, 24, 25, 26, 49, 50, 51, 52, 53, 54, 55, 56, 57, 58, 59] (by decide +kernel) (by decide +kernel)) (goodIn_sub (fun _ h => List.mem_cons_of_mem _ (List.mem_append_right _ h)) (by decide +kernel))
set_option maxRecDepth 20000 in
theorem gX2_await_X2_requireRunning : GoodIn wsX2_await (va_wsS RX2 42 yX2_requireRunning wsX2_requireRunning) := goodIn_app (goodIn_of _ (by decide +kernel)) ggX2_await_X2_requireRunning
set_option maxRecDepth 20000 in
theorem ggX2_await_X2_beginWait : GoodIn wsX2_await wsX2_beginWait := goodIn_r _ [30, 26, 31, 32, 33, 34, 35, 36, 37, 38, 5, 39, 40, 41, 42, 49, 50, 51, 52, 53, 54, 55, 56, 57, 58, 59, 43, 44, 45, 46, 47, 48] (by decide +kernel) (by decide +kernel)
set_option maxRecDepth 20000 in
theorem gX2_await_X2_beginWait : GoodIn wsX2_await (wsV RX2 50 RX2 yX2_beginWait wsX2_beginWait) := goodIn_app (goodIn_of _ (by decide +kernel)) ggX2_await_X2_beginWait
theorem dX2_await_0 : decode cX2_await 0 = .ok (.aload_n 0, 1) := by decide +kernel
theorem dX2_await_1 : decode cX2_await 1 = .ok (.iload_n 1, 1) := by decide +kernel
theorem dX2_await_2 : decode cX2_await 2 = .ok (.invokevirtual 35, 3) := by decide +kernel
theorem dX2_await_5 : decode cX2_await 5 = .ok (.astore 6, 2) := by decide +kernel
theorem dX2_await_7 : decode cX2_await 7 = .ok (.iload_n 2, 1) := by decide +kernel
theorem dX2_await_8 : decode cX2_await 8 = .ok (.invokestatic 39, 3) := by decide +kernel
theorem dX2_await_11 : decode cX2_await 11 = .ok (.iload 4, 2) := by decide +kernel
theorem dX2_await_13 : decode cX2_await 13 = .ok (.iconst 1, 1) := by decide +kernel
theorem dX2_await_14 : decode cX2_await 14 = .ok (.sipush 255, 3) := by decide +kernel
theorem dX2_await_17 : decode cX2_await 17 = .ok (.invokestatic 46, 3) := by decide +kernel
theorem dX2_await_20 : decode cX2_await 20 = .ok (.iload 5, 2) := by decide +kernel
theorem dX2_await_22 : decode cX2_await 22 = .ok (.iconst 0, 1) := by decide +kernel
theorem dX2_await_23 : decode cX2_await 23 = .ok (.sipush 10000, 3) := by decide +kernel
theorem dX2_await_26 : decode cX2_await 26 = .ok (.invokestatic 46, 3) := by decide +kernel
theorem dX2_await_29 : decode cX2_await 29 = .ok (.aload 6, 2) := by decide +kernel
theorem dX2_await_31 : decode cX2_await 31 = .ok (.invokestatic 42, 3) := by decide +kernel
theorem dX2_await_34 : decode cX2_await 34 = .ok (.aload_n 0, 1) := by decide +kernel
theorem dX2_await_35 : decode cX2_await 35 = .ok (.getfield 9, 3) := by decide +kernel
theorem dX2_await_38 : decode cX2_await 38 = .ok (.iload_n 2, 1) := by decide +kernel
theorem dX2_await_39 : decode cX2_await 39 = .ok (.iaload, 1) := by decide +kernel
theorem dX2_await_40 : decode cX2_await 40 = .ok (.iload_n 3, 1) := by decide +kernel
theorem dX2_await_41 : decode cX2_await 41 = .ok (.if_icmp .eq 5, 3) := by decide +kernel
theorem dX2_await_44 : decode cX2_await 44 = .ok (.iconst 0, 1) := by decide +kernel
theorem dX2_await_45 : decode cX2_await 45 = .ok (.ireturn, 1) := by decide +kernel
theorem dX2_await_46 : decode cX2_await 46 = .ok (.aload_n 0, 1) := by decide +kernel
theorem dX2_await_47 : decode cX2_await 47 = .ok (.aload 6, 2) := by decide +kernel
theorem dX2_await_49 : decode cX2_await 49 = .ok (.iconst 1, 1) := by decide +kernel
theorem dX2_await_50 : decode cX2_await 50 = .ok (.iload_n 2, 1) := by decide +kernel
theorem dX2_await_51 : decode cX2_await 51 = .ok (.iload 4, 2) := by decide +kernel
theorem dX2_await_53 : decode cX2_await 53 = .ok (.iload 5, 2) := by decide +kernel
theorem dX2_await_55 : decode cX2_await 55 = .ok (.invokevirtual 50, 3) := by decide +kernel
theorem dX2_await_58 : decode cX2_await 58 = .ok (.iconst 1, 1) := by decide +kernel
theorem dX2_await_59 : decode cX2_await 59 = .ok (.ireturn, 1) := by decide +kernel
set_option maxRecDepth 20000 in
theorem ggX2_wake_X2_taskOf : GoodIn wsX2_wake wsX2_taskOf := goodIn_ca (goodIn_r _ [5, 6, 7, 8, 61, 62, 63, 64, 65, 66] (by decide +kernel) (by decide +kernel)) (goodIn_sub (fun _ h => List.mem_cons_of_mem _ (List.mem_append_left _ (List.mem_append_left _ (List.mem_append_right _ h)))) (by decide +kernel))
set_option maxRecDepth 20000 in
theorem gX2_wake_X2_taskOf : GoodIn wsX2_wake (wsV RX2 35 RX2 yX2_taskOf wsX2_taskOf) := goodIn_app (goodIn_of _ (by decide +kernel)) ggX2_wake_X2_taskOf
set_option maxRecDepth 20000 in
theorem ggX2_wake_X2_requireAddress : GoodIn wsX2_wake wsX2_requireAddress := goodIn_ca (goodIn_r _ [11, 6, 7, 12, 13, 4, 14] (by decide +kernel) (by decide +kernel)) (goodIn_sub (fun _ h => List.mem_cons_of_mem _ (List.mem_append_left _ (List.mem_append_left _ (List.mem_append_right _ h)))) (by decide +kernel))
set_option maxRecDepth 20000 in
theorem gX2_wake_X2_requireAddress : GoodIn wsX2_wake (va_wsS RX2 39 yX2_requireAddress wsX2_requireAddress) := goodIn_app (goodIn_of _ (by decide +kernel)) ggX2_wake_X2_requireAddress
set_option maxRecDepth 20000 in
theorem ggX2_wake_X2_requireBetween : GoodIn wsX2_wake wsX2_requireBetween := goodIn_ca (goodIn_r _ [17, 18, 19] (by decide +kernel) (by decide +kernel)) (goodIn_sub (fun _ h => List.mem_cons_of_mem _ (List.mem_append_left _ (List.mem_append_right _ h))) (by decide +kernel))
set_option maxRecDepth 20000 in
theorem gX2_wake_X2_requireBetween : GoodIn wsX2_wake (va_wsS RX2 46 yX2_requireBetween wsX2_requireBetween) := goodIn_app (goodIn_of _ (by decide +kernel)) ggX2_wake_X2_requireBetween
set_option maxRecDepth 20000 in
theorem ggX2_wake_X2_requireRunning : GoodIn wsX2_wake wsX2_requireRunning := goodIn_ca (goodIn_r _ [22, 23, 24, 25, 67, 68, 69, 70, 71, 72, 73, 74, 75, 76, 77] (by decide +kernel) (by decide +kernel)) (goodIn_sub (fun _ h => List.mem_cons_of_mem _ (List.mem_append_right _ h)) (by decide +kernel))
set_option maxRecDepth 20000 in
theorem gX2_wake_X2_requireRunning : GoodIn wsX2_wake (va_wsS RX2 42 yX2_requireRunning wsX2_requireRunning) := goodIn_app (goodIn_of _ (by decide +kernel)) ggX2_wake_X2_requireRunning
set_option maxRecDepth 20000 in
theorem ggX2_wake_X2_wakeFirst : GoodIn wsX2_wake wsX2_wakeFirst := goodIn_r _ [29, 30, 31, 32, 4, 33, 8, 34, 25, 35, 36, 37, 38, 39, 40, 41, 42, 43, 44, 45, 46, 47, 48, 49, 50, 51, 52, 53, 54, 55, 56, 12, 13, 14, 57, 58, 59, 60, 61, 62, 63, 64, 65, 66, 67, 68, 69, 70, 71, 72, 73, 74, 75, 76, 77] (by decide +kernel) (by decide +kernel)
set_option maxRecDepth 20000 in
theorem gX2_wake_X2_wakeFirst : GoodIn wsX2_wake (wsV RX2 54 RX2 yX2_wakeFirst wsX2_wakeFirst) := goodIn_app (goodIn_of _ (by decide +kernel)) ggX2_wake_X2_wakeFirst
theorem dX2_wake_0 : decode cX2_wake 0 = .ok (.aload_n 0, 1) := by decide +kernel
theorem dX2_wake_1 : decode cX2_wake 1 = .ok (.iload_n 1, 1) := by decide +kernel
theorem dX2_wake_2 : decode cX2_wake 2 = .ok (.invokevirtual 35, 3) := by decide +kernel
theorem dX2_wake_5 : decode cX2_wake 5 = .ok (.astore 5, 2) := by decide +kernel
theorem dX2_wake_7 : decode cX2_wake 7 = .ok (.iload_n 2, 1) := by decide +kernel
theorem dX2_wake_8 : decode cX2_wake 8 = .ok (.invokestatic 39, 3) := by decide +kernel
theorem dX2_wake_11 : decode cX2_wake 11 = .ok (.iload_n 3, 1) := by decide +kernel
theorem dX2_wake_12 : decode cX2_wake 12 = .ok (.iconst 1, 1) := by decide +kernel
theorem dX2_wake_13 : decode cX2_wake 13 = .ok (.bipush 8, 2) := by decide +kernel
theorem dX2_wake_15 : decode cX2_wake 15 = .ok (.invokestatic 46, 3) := by decide +kernel
theorem dX2_wake_18 : decode cX2_wake 18 = .ok (.iload 4, 2) := by decide +kernel
theorem dX2_wake_20 : decode cX2_wake 20 = .ok (.iconst 1, 1) := by decide +kernel
theorem dX2_wake_21 : decode cX2_wake 21 = .ok (.sipush 255, 3) := by decide +kernel
theorem dX2_wake_24 : decode cX2_wake 24 = .ok (.invokestatic 46, 3) := by decide +kernel
theorem dX2_wake_27 : decode cX2_wake 27 = .ok (.aload 5, 2) := by decide +kernel
theorem dX2_wake_29 : decode cX2_wake 29 = .ok (.invokestatic 42, 3) := by decide +kernel
theorem dX2_wake_32 : decode cX2_wake 32 = .ok (.aload_n 0, 1) := by decide +kernel
theorem dX2_wake_33 : decode cX2_wake 33 = .ok (.iload_n 2, 1) := by decide +kernel
theorem dX2_wake_34 : decode cX2_wake 34 = .ok (.iload_n 3, 1) := by decide +kernel
theorem dX2_wake_35 : decode cX2_wake 35 = .ok (.iload 4, 2) := by decide +kernel
theorem dX2_wake_37 : decode cX2_wake 37 = .ok (.invokevirtual 54, 3) := by decide +kernel
theorem dX2_wake_40 : decode cX2_wake 40 = .ok (.ireturn, 1) := by decide +kernel
set_option maxRecDepth 20000 in
theorem ggX2_requeue_X2_taskOf : GoodIn wsX2_requeue wsX2_taskOf := goodIn_ca (goodIn_r _ [8, 9, 10, 11, 71, 72, 73, 74, 75, 76] (by decide +kernel) (by decide +kernel)) (goodIn_sub (fun _ h => List.mem_cons_of_mem _ (List.mem_append_left _ (List.mem_append_right _ h))) (by decide +kernel))
set_option maxRecDepth 20000 in
theorem gX2_requeue_X2_taskOf : GoodIn wsX2_requeue (wsV RX2 35 RX2 yX2_taskOf wsX2_taskOf) := goodIn_app (goodIn_of _ (by decide +kernel)) ggX2_requeue_X2_taskOf
set_option maxRecDepth 20000 in
theorem ggX2_requeue_X2_requireAddress : GoodIn wsX2_requeue wsX2_requireAddress := goodIn_ca (goodIn_r _ [14, 9, 10, 15, 16, 7, 17] (by decide +kernel) (by decide +kernel)) (goodIn_sub (fun _ h => List.mem_cons_of_mem _ (List.mem_append_left _ (List.mem_append_right _ h))) (by decide +kernel))
set_option maxRecDepth 20000 in
theorem gX2_requeue_X2_requireAddress : GoodIn wsX2_requeue (va_wsS RX2 39 yX2_requireAddress wsX2_requireAddress) := goodIn_app (goodIn_of _ (by decide +kernel)) ggX2_requeue_X2_requireAddress
set_option maxRecDepth 20000 in
theorem ggX2_requeue_X2_requireBetween : GoodIn wsX2_requeue wsX2_requireBetween := goodIn_ca (goodIn_r _ [20, 1, 2] (by decide +kernel) (by decide +kernel)) (goodIn_sub (fun _ h => List.mem_cons_of_mem _ (List.mem_append_left _ (List.mem_append_left _ (List.mem_append_right _ h)))) (by decide +kernel))
set_option maxRecDepth 20000 in
theorem gX2_requeue_X2_requireBetween : GoodIn wsX2_requeue (va_wsS RX2 46 yX2_requireBetween wsX2_requireBetween) := goodIn_app (goodIn_of _ (by decide +kernel)) ggX2_requeue_X2_requireBetween
set_option maxRecDepth 20000 in
theorem ggX2_requeue_X2_requireRunning : GoodIn wsX2_requeue wsX2_requireRunning := goodIn_ca (goodIn_r _ [23, 24, 25, 26, 77, 78, 79, 80, 81, 82, 83, 84, 85, 86, 87] (by decide +kernel) (by decide +kernel)) (goodIn_sub (fun _ h => List.mem_cons_of_mem _ (List.mem_append_right _ h)) (by decide +kernel))
set_option maxRecDepth 20000 in
theorem gX2_requeue_X2_requireRunning : GoodIn wsX2_requeue (va_wsS RX2 42 yX2_requireRunning wsX2_requireRunning) := goodIn_app (goodIn_of _ (by decide +kernel)) ggX2_requeue_X2_requireRunning
set_option maxRecDepth 20000 in
theorem ggX2_requeue_X2_wakeFirst : GoodIn wsX2_requeue wsX2_wakeFirst := goodIn_r _ [30, 31, 32, 33, 7, 34, 11, 35, 26, 36, 37, 38, 39, 40, 41, 42, 43, 44, 45, 46, 47, 48, 49, 50, 51, 52, 53, 54, 55, 3, 56, 15, 16, 17, 57, 58, 59, 60, 71, 72, 73, 74, 75, 76, 77, 78, 79, 80, 81, 82, 83, 84, 85, 86, 87] (by decide +kernel) (by decide +kernel)
set_option maxRecDepth 20000 in
theorem gX2_requeue_X2_wakeFirst : GoodIn wsX2_requeue (wsV RX2 54 RX2 yX2_wakeFirst wsX2_wakeFirst) := goodIn_app (goodIn_of _ (by decide +kernel)) ggX2_requeue_X2_wakeFirst
set_option maxRecDepth 20000 in
theorem ggX2_requeue_X2_moveFirst : GoodIn wsX2_requeue wsX2_moveFirst := goodIn_r _ [64, 31, 32, 33, 7, 34, 11, 35, 26, 36, 37, 38, 39, 40, 41, 42, 43, 65, 66, 67, 68, 69, 70, 71, 72, 73, 74, 75, 76, 77, 78, 79, 80, 81, 82, 83, 84, 85, 86, 87] (by decide +kernel) (by decide +kernel)
set_option maxRecDepth 20000 in
theorem gX2_requeue_X2_moveFirst : GoodIn wsX2_requeue (wsV RX2 65 RX2 yX2_moveFirst wsX2_moveFirst) := goodIn_app (goodIn_of _ (by decide +kernel)) ggX2_requeue_X2_moveFirst
theorem dX2_requeue_0 : decode cX2_requeue 0 = .ok (.aload_n 0, 1) := by decide +kernel
theorem dX2_requeue_1 : decode cX2_requeue 1 = .ok (.iload_n 1, 1) := by decide +kernel
theorem dX2_requeue_2 : decode cX2_requeue 2 = .ok (.invokevirtual 35, 3) := by decide +kernel
theorem dX2_requeue_5 : decode cX2_requeue 5 = .ok (.astore 7, 2) := by decide +kernel
theorem dX2_requeue_7 : decode cX2_requeue 7 = .ok (.iload_n 2, 1) := by decide +kernel
theorem dX2_requeue_8 : decode cX2_requeue 8 = .ok (.invokestatic 39, 3) := by decide +kernel
theorem dX2_requeue_11 : decode cX2_requeue 11 = .ok (.iload 5, 2) := by decide +kernel
theorem dX2_requeue_13 : decode cX2_requeue 13 = .ok (.invokestatic 39, 3) := by decide +kernel
theorem dX2_requeue_16 : decode cX2_requeue 16 = .ok (.iload_n 2, 1) := by decide +kernel
theorem dX2_requeue_17 : decode cX2_requeue 17 = .ok (.iload 5, 2) := by decide +kernel
theorem dX2_requeue_19 : decode cX2_requeue 19 = .ok (.if_icmp .ne 13, 3) := by decide +kernel
theorem dX2_requeue_22 : decode cX2_requeue 22 = .ok (.new 58, 3) := by decide +kernel
theorem dX2_requeue_25 : decode cX2_requeue 25 = .ok (.dup, 1) := by decide +kernel
theorem dX2_requeue_26 : decode cX2_requeue 26 = .ok (.ldc 60, 2) := by decide +kernel
theorem dX2_requeue_28 : decode cX2_requeue 28 = .ok (.invokespecial 62, 3) := by decide +kernel
theorem dX2_requeue_31 : decode cX2_requeue 31 = .ok (.athrow, 1) := by decide +kernel
theorem dX2_requeue_32 : decode cX2_requeue 32 = .ok (.iload 4, 2) := by decide +kernel
theorem dX2_requeue_34 : decode cX2_requeue 34 = .ok (.iconst 0, 1) := by decide +kernel
theorem dX2_requeue_35 : decode cX2_requeue 35 = .ok (.bipush 8, 2) := by decide +kernel
theorem dX2_requeue_37 : decode cX2_requeue 37 = .ok (.invokestatic 46, 3) := by decide +kernel
theorem dX2_requeue_40 : decode cX2_requeue 40 = .ok (.iload 6, 2) := by decide +kernel
theorem dX2_requeue_42 : decode cX2_requeue 42 = .ok (.iconst 0, 1) := by decide +kernel
theorem dX2_requeue_43 : decode cX2_requeue 43 = .ok (.bipush 8, 2) := by decide +kernel
theorem dX2_requeue_45 : decode cX2_requeue 45 = .ok (.invokestatic 46, 3) := by decide +kernel
theorem dX2_requeue_48 : decode cX2_requeue 48 = .ok (.aload 7, 2) := by decide +kernel
theorem dX2_requeue_50 : decode cX2_requeue 50 = .ok (.invokestatic 42, 3) := by decide +kernel
theorem dX2_requeue_53 : decode cX2_requeue 53 = .ok (.aload_n 0, 1) := by decide +kernel
theorem dX2_requeue_54 : decode cX2_requeue 54 = .ok (.getfield 9, 3) := by decide +kernel
theorem dX2_requeue_57 : decode cX2_requeue 57 = .ok (.iload_n 2, 1) := by decide +kernel
theorem dX2_requeue_58 : decode cX2_requeue 58 = .ok (.iaload, 1) := by decide +kernel
theorem dX2_requeue_59 : decode cX2_requeue 59 = .ok (.iload_n 3, 1) := by decide +kernel
theorem dX2_requeue_60 : decode cX2_requeue 60 = .ok (.if_icmp .eq 5, 3) := by decide +kernel
theorem dX2_requeue_63 : decode cX2_requeue 63 = .ok (.iconst (-1), 1) := by decide +kernel
theorem dX2_requeue_64 : decode cX2_requeue 64 = .ok (.ireturn, 1) := by decide +kernel
theorem dX2_requeue_65 : decode cX2_requeue 65 = .ok (.aload_n 0, 1) := by decide +kernel
theorem dX2_requeue_66 : decode cX2_requeue 66 = .ok (.iload_n 2, 1) := by decide +kernel
theorem dX2_requeue_67 : decode cX2_requeue 67 = .ok (.iload 4, 2) := by decide +kernel
theorem dX2_requeue_69 : decode cX2_requeue 69 = .ok (.sipush 255, 3) := by decide +kernel
theorem dX2_requeue_72 : decode cX2_requeue 72 = .ok (.invokevirtual 54, 3) := by decide +kernel
theorem dX2_requeue_75 : decode cX2_requeue 75 = .ok (.istore 8, 2) := by decide +kernel
theorem dX2_requeue_77 : decode cX2_requeue 77 = .ok (.iload 8, 2) := by decide +kernel
theorem dX2_requeue_79 : decode cX2_requeue 79 = .ok (.aload_n 0, 1) := by decide +kernel
theorem dX2_requeue_80 : decode cX2_requeue 80 = .ok (.iload_n 2, 1) := by decide +kernel
theorem dX2_requeue_81 : decode cX2_requeue 81 = .ok (.iload 5, 2) := by decide +kernel
theorem dX2_requeue_83 : decode cX2_requeue 83 = .ok (.iload 6, 2) := by decide +kernel
theorem dX2_requeue_85 : decode cX2_requeue 85 = .ok (.invokevirtual 65, 3) := by decide +kernel
theorem dX2_requeue_88 : decode cX2_requeue 88 = .ok (.iadd, 1) := by decide +kernel
theorem dX2_requeue_89 : decode cX2_requeue 89 = .ok (.ireturn, 1) := by decide +kernel
set_option maxRecDepth 20000 in
theorem ggX2_lock_X2_taskOf : GoodIn wsX2_lock wsX2_taskOf := goodIn_ca (goodIn_r _ [9, 10, 11, 12, 85, 86, 87, 88, 89, 90] (by decide +kernel) (by decide +kernel)) (goodIn_sub (fun _ h => List.mem_cons_of_mem _ (List.mem_append_left _ (List.mem_append_left _ (List.mem_append_right _ h)))) (by decide +kernel))
set_option maxRecDepth 20000 in
theorem gX2_lock_X2_taskOf : GoodIn wsX2_lock (wsV RX2 35 RX2 yX2_taskOf wsX2_taskOf) := goodIn_app (goodIn_of _ (by decide +kernel)) ggX2_lock_X2_taskOf
set_option maxRecDepth 20000 in
theorem ggX2_lock_X2_requireAddress : GoodIn wsX2_lock wsX2_requireAddress := goodIn_ca (goodIn_r _ [15, 10, 11, 16, 17, 8, 18] (by decide +kernel) (by decide +kernel)) (goodIn_sub (fun _ h => List.mem_cons_of_mem _ (List.mem_append_left _ (List.mem_append_left _ (List.mem_append_right _ h)))) (by decide +kernel))
set_option maxRecDepth 20000 in
theorem gX2_lock_X2_requireAddress : GoodIn wsX2_lock (va_wsS RX2 39 yX2_requireAddress wsX2_requireAddress) := goodIn_app (goodIn_of _ (by decide +kernel)) ggX2_lock_X2_requireAddress
set_option maxRecDepth 20000 in
theorem ggX2_lock_X2_requireBetween : GoodIn wsX2_lock wsX2_requireBetween := goodIn_ca (goodIn_r _ [21, 22, 23] (by decide +kernel) (by decide +kernel)) (goodIn_sub (fun _ h => List.mem_cons_of_mem _ (List.mem_append_left _ (List.mem_append_right _ h))) (by decide +kernel))
set_option maxRecDepth 20000 in
theorem gX2_lock_X2_requireBetween : GoodIn wsX2_lock (va_wsS RX2 46 yX2_requireBetween wsX2_requireBetween) := goodIn_app (goodIn_of _ (by decide +kernel)) ggX2_lock_X2_requireBetween
set_option maxRecDepth 20000 in
theorem ggX2_lock_X2_requireRunning : GoodIn wsX2_lock wsX2_requireRunning := goodIn_ca (goodIn_r _ [26, 27, 28, 3, 91, 92, 93, 94, 95, 96, 97, 98, 99, 100, 101] (by decide +kernel) (by decide +kernel)) (goodIn_sub (fun _ h => List.mem_cons_of_mem _ (List.mem_append_right _ h)) (by decide +kernel))
set_option maxRecDepth 20000 in
theorem gX2_lock_X2_requireRunning : GoodIn wsX2_lock (va_wsS RX2 42 yX2_requireRunning wsX2_requireRunning) := goodIn_app (goodIn_of _ (by decide +kernel)) ggX2_lock_X2_requireRunning
set_option maxRecDepth 20000 in
theorem ggX2_lock_X2_giveLock : GoodIn wsX2_lock wsX2_giveLock := goodIn_r _ [32, 4, 1, 33, 34, 16, 17, 8, 18, 35, 36, 37, 38, 39, 40, 41, 42, 12, 43, 3, 44, 45, 46, 47, 48, 49, 50, 51, 52, 53, 54, 55, 56, 57, 58, 59, 60, 61, 62, 85, 86, 87, 88, 89, 90, 91, 92, 93, 94, 95, 96, 97, 98, 99, 100, 101, 102, 103] (by decide +kernel) (by decide +kernel)
set_option maxRecDepth 20000 in
theorem gX2_lock_X2_giveLock : GoodIn wsX2_lock (wsV RX2 69 RX2 yX2_giveLock wsX2_giveLock) := goodIn_app (goodIn_of _ (by decide +kernel)) ggX2_lock_X2_giveLock
set_option maxRecDepth 20000 in
theorem ggX2_lock_X2_ownerAt : GoodIn wsX2_lock wsX2_ownerAt := goodIn_r _ [66, 1, 12, 16, 17, 8, 18, 85, 86, 87, 88, 89, 90] (by decide +kernel) (by decide +kernel)
set_option maxRecDepth 20000 in
theorem gX2_lock_X2_ownerAt : GoodIn wsX2_lock (wsV RX2 73 RX2 yX2_ownerAt wsX2_ownerAt) := goodIn_app (goodIn_of _ (by decide +kernel)) ggX2_lock_X2_ownerAt
set_option maxRecDepth 20000 in
theorem ggX2_lock_X2_isHeldUpBy : GoodIn wsX2_lock wsX2_isHeldUpBy := goodIn_r _ [70, 3, 43, 63, 64, 65, 8, 66, 1, 12, 16, 17, 18, 91, 92, 93, 94, 95, 96, 97, 98, 99, 100, 101, 85, 86, 87, 88, 89, 90] (by decide +kernel) (by decide +kernel)
set_option maxRecDepth 20000 in
theorem gX2_lock_X2_isHeldUpBy : GoodIn wsX2_lock (wsV RX2 79 RX2 yX2_isHeldUpBy wsX2_isHeldUpBy) := goodIn_app (goodIn_of _ (by decide +kernel)) ggX2_lock_X2_isHeldUpBy
set_option maxRecDepth 20000 in
theorem ggX2_lock_X2_beginWait : GoodIn wsX2_lock wsX2_beginWait := goodIn_r _ [74, 3, 44, 75, 76, 77, 78, 79, 80, 81, 8, 82, 43, 83, 84, 91, 92, 93, 94, 95, 96, 97, 98, 99, 100, 101, 85, 86, 87, 88, 89, 90] (by decide +kernel) (by decide +kernel)
set_option maxRecDepth 20000 in
theorem gX2_lock_X2_beginWait : GoodIn wsX2_lock (wsV RX2 50 RX2 yX2_beginWait wsX2_beginWait) := goodIn_app (goodIn_of _ (by decide +kernel)) ggX2_lock_X2_beginWait
theorem dX2_lock_0 : decode cX2_lock 0 = .ok (.aload_n 0, 1) := by decide +kernel
theorem dX2_lock_1 : decode cX2_lock 1 = .ok (.iload_n 1, 1) := by decide +kernel
theorem dX2_lock_2 : decode cX2_lock 2 = .ok (.invokevirtual 35, 3) := by decide +kernel
theorem dX2_lock_5 : decode cX2_lock 5 = .ok (.astore 4, 2) := by decide +kernel
theorem dX2_lock_7 : decode cX2_lock 7 = .ok (.iload_n 2, 1) := by decide +kernel
theorem dX2_lock_8 : decode cX2_lock 8 = .ok (.invokestatic 39, 3) := by decide +kernel
theorem dX2_lock_11 : decode cX2_lock 11 = .ok (.iload_n 3, 1) := by decide +kernel
theorem dX2_lock_12 : decode cX2_lock 12 = .ok (.iconst 0, 1) := by decide +kernel
theorem dX2_lock_13 : decode cX2_lock 13 = .ok (.sipush 10000, 3) := by decide +kernel
theorem dX2_lock_16 : decode cX2_lock 16 = .ok (.invokestatic 46, 3) := by decide +kernel
theorem dX2_lock_19 : decode cX2_lock 19 = .ok (.aload 4, 2) := by decide +kernel
theorem dX2_lock_21 : decode cX2_lock 21 = .ok (.invokestatic 42, 3) := by decide +kernel
theorem dX2_lock_24 : decode cX2_lock 24 = .ok (.aload_n 0, 1) := by decide +kernel
theorem dX2_lock_25 : decode cX2_lock 25 = .ok (.getfield 9, 3) := by decide +kernel
theorem dX2_lock_28 : decode cX2_lock 28 = .ok (.iload_n 2, 1) := by decide +kernel
theorem dX2_lock_29 : decode cX2_lock 29 = .ok (.iaload, 1) := by decide +kernel
theorem dX2_lock_30 : decode cX2_lock 30 = .ok (.istore 5, 2) := by decide +kernel
theorem dX2_lock_32 : decode cX2_lock 32 = .ok (.iload 5, 2) := by decide +kernel
theorem dX2_lock_34 : decode cX2_lock 34 = .ok (.sipush 255, 3) := by decide +kernel
theorem dX2_lock_37 : decode cX2_lock 37 = .ok (.iand, 1) := by decide +kernel
theorem dX2_lock_38 : decode cX2_lock 38 = .ok (.ifCond .ne 29, 3) := by decide +kernel
theorem dX2_lock_41 : decode cX2_lock 41 = .ok (.aload_n 0, 1) := by decide +kernel
theorem dX2_lock_42 : decode cX2_lock 42 = .ok (.aload 4, 2) := by decide +kernel
theorem dX2_lock_44 : decode cX2_lock 44 = .ok (.iload_n 2, 1) := by decide +kernel
theorem dX2_lock_45 : decode cX2_lock 45 = .ok (.iload 5, 2) := by decide +kernel
theorem dX2_lock_47 : decode cX2_lock 47 = .ok (.ldc 68, 2) := by decide +kernel
theorem dX2_lock_49 : decode cX2_lock 49 = .ok (.iand, 1) := by decide +kernel
theorem dX2_lock_50 : decode cX2_lock 50 = .ok (.invokevirtual 69, 3) := by decide +kernel
theorem dX2_lock_53 : decode cX2_lock 53 = .ok (.iload 5, 2) := by decide +kernel
theorem dX2_lock_55 : decode cX2_lock 55 = .ok (.ldc 68, 2) := by decide +kernel
theorem dX2_lock_57 : decode cX2_lock 57 = .ok (.iand, 1) := by decide +kernel
theorem dX2_lock_58 : decode cX2_lock 58 = .ok (.ifCond .ne 7, 3) := by decide +kernel
theorem dX2_lock_61 : decode cX2_lock 61 = .ok (.iconst 0, 1) := by decide +kernel
theorem dX2_lock_62 : decode cX2_lock 62 = .ok (.goto 4, 3) := by decide +kernel
theorem dX2_lock_65 : decode cX2_lock 65 = .ok (.iconst 1, 1) := by decide +kernel
theorem dX2_lock_66 : decode cX2_lock 66 = .ok (.ireturn, 1) := by decide +kernel
theorem dX2_lock_67 : decode cX2_lock 67 = .ok (.aload_n 0, 1) := by decide +kernel
theorem dX2_lock_68 : decode cX2_lock 68 = .ok (.iload_n 2, 1) := by decide +kernel
theorem dX2_lock_69 : decode cX2_lock 69 = .ok (.invokevirtual 73, 3) := by decide +kernel
theorem dX2_lock_72 : decode cX2_lock 72 = .ok (.astore 6, 2) := by decide +kernel
theorem dX2_lock_74 : decode cX2_lock 74 = .ok (.aload 6, 2) := by decide +kernel
theorem dX2_lock_76 : decode cX2_lock 76 = .ok (.ifnull 12, 3) := by decide +kernel
theorem dX2_lock_79 : decode cX2_lock 79 = .ok (.aload 6, 2) := by decide +kernel
theorem dX2_lock_81 : decode cX2_lock 81 = .ok (.getfield 76, 3) := by decide +kernel
theorem dX2_lock_84 : decode cX2_lock 84 = .ok (.iconst 3, 1) := by decide +kernel
theorem dX2_lock_85 : decode cX2_lock 85 = .ok (.if_icmp .ne 5, 3) := by decide +kernel
theorem dX2_lock_88 : decode cX2_lock 88 = .ok (.iconst 4, 1) := by decide +kernel
theorem dX2_lock_89 : decode cX2_lock 89 = .ok (.ireturn, 1) := by decide +kernel
theorem dX2_lock_90 : decode cX2_lock 90 = .ok (.aload 6, 2) := by decide +kernel
theorem dX2_lock_92 : decode cX2_lock 92 = .ok (.aload 4, 2) := by decide +kernel
theorem dX2_lock_94 : decode cX2_lock 94 = .ok (.if_acmp .eq 14, 3) := by decide +kernel
theorem dX2_lock_97 : decode cX2_lock 97 = .ok (.aload_n 0, 1) := by decide +kernel
theorem dX2_lock_98 : decode cX2_lock 98 = .ok (.aload 6, 2) := by decide +kernel
theorem dX2_lock_100 : decode cX2_lock 100 = .ok (.aload 4, 2) := by decide +kernel
theorem dX2_lock_102 : decode cX2_lock 102 = .ok (.invokevirtual 79, 3) := by decide +kernel
theorem dX2_lock_105 : decode cX2_lock 105 = .ok (.ifCond .eq 5, 3) := by decide +kernel
theorem dX2_lock_108 : decode cX2_lock 108 = .ok (.iconst 3, 1) := by decide +kernel
theorem dX2_lock_109 : decode cX2_lock 109 = .ok (.ireturn, 1) := by decide +kernel
theorem dX2_lock_110 : decode cX2_lock 110 = .ok (.aload_n 0, 1) := by decide +kernel
theorem dX2_lock_111 : decode cX2_lock 111 = .ok (.getfield 9, 3) := by decide +kernel
theorem dX2_lock_114 : decode cX2_lock 114 = .ok (.iload_n 2, 1) := by decide +kernel
theorem dX2_lock_115 : decode cX2_lock 115 = .ok (.iload 5, 2) := by decide +kernel
theorem dX2_lock_117 : decode cX2_lock 117 = .ok (.ldc 83, 2) := by decide +kernel
theorem dX2_lock_119 : decode cX2_lock 119 = .ok (.ior, 1) := by decide +kernel
theorem dX2_lock_120 : decode cX2_lock 120 = .ok (.iastore, 1) := by decide +kernel
theorem dX2_lock_121 : decode cX2_lock 121 = .ok (.aload_n 0, 1) := by decide +kernel
theorem dX2_lock_122 : decode cX2_lock 122 = .ok (.aload 4, 2) := by decide +kernel
theorem dX2_lock_124 : decode cX2_lock 124 = .ok (.iconst 2, 1) := by decide +kernel
theorem dX2_lock_125 : decode cX2_lock 125 = .ok (.iload_n 2, 1) := by decide +kernel
theorem dX2_lock_126 : decode cX2_lock 126 = .ok (.sipush 255, 3) := by decide +kernel
theorem dX2_lock_129 : decode cX2_lock 129 = .ok (.iload_n 3, 1) := by decide +kernel
theorem dX2_lock_130 : decode cX2_lock 130 = .ok (.invokevirtual 50, 3) := by decide +kernel
theorem dX2_lock_133 : decode cX2_lock 133 = .ok (.iconst 2, 1) := by decide +kernel
theorem dX2_lock_134 : decode cX2_lock 134 = .ok (.ireturn, 1) := by decide +kernel
set_option maxRecDepth 20000 in
theorem ggX2_unlock_X2_taskOf : GoodIn wsX2_unlock wsX2_taskOf := goodIn_ca (goodIn_r _ [8, 9, 10, 11, 94, 95, 96, 97, 98, 99] (by decide +kernel) (by decide +kernel)) (goodIn_sub (fun _ h => List.mem_cons_of_mem _ (List.mem_append_right _ h)) (by decide +kernel))
set_option maxRecDepth 20000 in
theorem gX2_unlock_X2_taskOf : GoodIn wsX2_unlock (wsV RX2 35 RX2 yX2_taskOf wsX2_taskOf) := goodIn_app (goodIn_of _ (by decide +kernel)) ggX2_unlock_X2_taskOf
set_option maxRecDepth 20000 in
theorem ggX2_unlock_X2_requireAddress : GoodIn wsX2_unlock wsX2_requireAddress := goodIn_ca (goodIn_r _ [14, 9, 10, 15, 16, 7, 17] (by decide +kernel) (by decide +kernel)) (goodIn_sub (fun _ h => List.mem_cons_of_mem _ (List.mem_append_right _ h)) (by decide +kernel))
set_option maxRecDepth 20000 in
theorem gX2_unlock_X2_requireAddress : GoodIn wsX2_unlock (va_wsS RX2 39 yX2_requireAddress wsX2_requireAddress) := goodIn_app (goodIn_of _ (by decide +kernel)) ggX2_unlock_X2_requireAddress
set_option maxRecDepth 20000 in
theorem ggX2_unlock_X2_requireRunning : GoodIn wsX2_unlock wsX2_requireRunning := goodIn_ca (goodIn_r _ [20, 1, 2, 21, 83, 84, 85, 86, 87, 88, 89, 90, 91, 92, 93] (by decide +kernel) (by decide +kernel)) (goodIn_sub (fun _ h => List.mem_cons_of_mem _ (List.mem_append_left _ (List.mem_append_right _ h))) (by decide +kernel))
set_option maxRecDepth 20000 in
theorem gX2_unlock_X2_requireRunning : GoodIn wsX2_unlock (va_wsS RX2 42 yX2_requireRunning wsX2_requireRunning) := goodIn_app (goodIn_of _ (by decide +kernel)) ggX2_unlock_X2_requireRunning
set_option maxRecDepth 20000 in
theorem ggX2_unlock_X2_ownerAt : GoodIn wsX2_unlock wsX2_ownerAt := goodIn_r _ [25, 26, 11, 15, 16, 7, 17, 94, 95, 96, 97, 98, 99] (by decide +kernel) (by decide +kernel)
set_option maxRecDepth 20000 in
theorem gX2_unlock_X2_ownerAt : GoodIn wsX2_unlock (wsV RX2 73 RX2 yX2_ownerAt wsX2_ownerAt) := goodIn_app (goodIn_of _ (by decide +kernel)) ggX2_unlock_X2_ownerAt
set_option maxRecDepth 20000 in
theorem ggX2_unlock_X0_drop : GoodIn wsX2_unlock wsX0_drop := goodIn_r _ [31, 32, 33, 34, 35, 36, 30, 37, 100, 101] (by decide +kernel) (by decide +kernel)
set_option maxRecDepth 20000 in
theorem gX2_unlock_X0_drop : GoodIn wsX2_unlock (wsV RX2 93 RX0 yX0_drop wsX0_drop) := goodIn_app (goodIn_of _ (by decide +kernel)) ggX2_unlock_X0_drop
set_option maxRecDepth 20000 in
theorem ggX2_unlock_X2_passOn : GoodIn wsX2_unlock wsX2_passOn := goodIn_r _ [41, 42, 43, 26, 44, 45, 46, 7, 47, 48, 49, 50, 51, 11, 52, 21, 53, 54, 55, 56, 57, 58, 59, 60, 61, 62, 63, 64, 65, 66, 67, 68, 69, 70, 71, 72, 73, 15, 16, 17, 74, 75, 76, 77, 78, 3, 79, 80, 81, 30, 82, 32, 33, 34, 35, 36, 37, 83, 84, 85, 86, 87, 88, 89, 90, 91, 92, 93, 94, 95, 96, 97, 98, 99, 100, 101] (by decide +kernel) (by decide +kernel)
set_option maxRecDepth 20000 in
theorem gX2_unlock_X2_passOn : GoodIn wsX2_unlock (wsV RX2 98 RX2 yX2_passOn wsX2_passOn) := goodIn_app (goodIn_of _ (by decide +kernel)) ggX2_unlock_X2_passOn
theorem dX2_unlock_0 : decode cX2_unlock 0 = .ok (.aload_n 0, 1) := by decide +kernel
theorem dX2_unlock_1 : decode cX2_unlock 1 = .ok (.iload_n 1, 1) := by decide +kernel
theorem dX2_unlock_2 : decode cX2_unlock 2 = .ok (.invokevirtual 35, 3) := by decide +kernel
theorem dX2_unlock_5 : decode cX2_unlock 5 = .ok (.astore_n 3, 1) := by decide +kernel
theorem dX2_unlock_6 : decode cX2_unlock 6 = .ok (.iload_n 2, 1) := by decide +kernel
theorem dX2_unlock_7 : decode cX2_unlock 7 = .ok (.invokestatic 39, 3) := by decide +kernel
theorem dX2_unlock_10 : decode cX2_unlock 10 = .ok (.aload_n 3, 1) := by decide +kernel
theorem dX2_unlock_11 : decode cX2_unlock 11 = .ok (.invokestatic 42, 3) := by decide +kernel
theorem dX2_unlock_14 : decode cX2_unlock 14 = .ok (.aload_n 0, 1) := by decide +kernel
theorem dX2_unlock_15 : decode cX2_unlock 15 = .ok (.iload_n 2, 1) := by decide +kernel
theorem dX2_unlock_16 : decode cX2_unlock 16 = .ok (.invokevirtual 73, 3) := by decide +kernel
theorem dX2_unlock_19 : decode cX2_unlock 19 = .ok (.aload_n 3, 1) := by decide +kernel
theorem dX2_unlock_20 : decode cX2_unlock 20 = .ok (.if_acmp .eq 13, 3) := by decide +kernel
theorem dX2_unlock_23 : decode cX2_unlock 23 = .ok (.new 84, 3) := by decide +kernel
theorem dX2_unlock_26 : decode cX2_unlock 26 = .ok (.dup, 1) := by decide +kernel
theorem dX2_unlock_27 : decode cX2_unlock 27 = .ok (.ldc 86, 2) := by decide +kernel
theorem dX2_unlock_29 : decode cX2_unlock 29 = .ok (.invokespecial 88, 3) := by decide +kernel
theorem dX2_unlock_32 : decode cX2_unlock 32 = .ok (.athrow, 1) := by decide +kernel
theorem dX2_unlock_33 : decode cX2_unlock 33 = .ok (.aload_n 3, 1) := by decide +kernel
theorem dX2_unlock_34 : decode cX2_unlock 34 = .ok (.getfield 89, 3) := by decide +kernel
theorem dX2_unlock_37 : decode cX2_unlock 37 = .ok (.iload_n 2, 1) := by decide +kernel
theorem dX2_unlock_38 : decode cX2_unlock 38 = .ok (.invokevirtual 93, 3) := by decide +kernel
theorem dX2_unlock_41 : decode cX2_unlock 41 = .ok (.aload_n 0, 1) := by decide +kernel
theorem dX2_unlock_42 : decode cX2_unlock 42 = .ok (.iload_n 2, 1) := by decide +kernel
theorem dX2_unlock_43 : decode cX2_unlock 43 = .ok (.iconst 0, 1) := by decide +kernel
theorem dX2_unlock_44 : decode cX2_unlock 44 = .ok (.invokevirtual 98, 3) := by decide +kernel
theorem dX2_unlock_47 : decode cX2_unlock 47 = .ok (.ireturn, 1) := by decide +kernel
set_option maxRecDepth 20000 in
theorem ggX2_locks_X2_taskOf : GoodIn wsX2_locks wsX2_taskOf := goodIn_ca (goodIn_r _ [7, 8, 9, 10, 24, 25, 26, 27, 28, 29] (by decide +kernel) (by decide +kernel)) (goodIn_sub (fun _ h => List.mem_cons_of_mem _ (List.mem_append_right _ h)) (by decide +kernel))
set_option maxRecDepth 20000 in
theorem gX2_locks_X2_taskOf : GoodIn wsX2_locks (wsV RX2 35 RX2 yX2_taskOf wsX2_taskOf) := goodIn_app (goodIn_of _ (by decide +kernel)) ggX2_locks_X2_taskOf
theorem dX2_locks_0 : decode cX2_locks 0 = .ok (.aload_n 0, 1) := by decide +kernel
theorem dX2_locks_1 : decode cX2_locks 1 = .ok (.iload_n 1, 1) := by decide +kernel
theorem dX2_locks_2 : decode cX2_locks 2 = .ok (.invokevirtual 35, 3) := by decide +kernel
theorem dX2_locks_5 : decode cX2_locks 5 = .ok (.getfield 89, 3) := by decide +kernel
theorem dX2_locks_8 : decode cX2_locks 8 = .ok (.getfield 102, 3) := by decide +kernel
theorem dX2_locks_11 : decode cX2_locks 11 = .ok (.ireturn, 1) := by decide +kernel
set_option maxRecDepth 20000 in
theorem ggX2_lockAt_X2_taskOf : GoodIn wsX2_lockAt wsX2_taskOf := goodIn_ca (goodIn_r _ [9, 1, 2, 10, 31, 32, 33, 34, 35, 36] (by decide +kernel) (by decide +kernel)) (goodIn_sub (fun _ h => List.mem_cons_of_mem _ (List.mem_append_right _ h)) (by decide +kernel))
set_option maxRecDepth 20000 in
theorem gX2_lockAt_X2_taskOf : GoodIn wsX2_lockAt (wsV RX2 35 RX2 yX2_taskOf wsX2_taskOf) := goodIn_app (goodIn_of _ (by decide +kernel)) ggX2_lockAt_X2_taskOf
set_option maxRecDepth 20000 in
theorem ggX2_lockAt_X0_addressAt : GoodIn wsX2_lockAt wsX0_addressAt := goodIn_r _ [15, 16, 17, 29, 30] (by decide +kernel) (by decide +kernel)
set_option maxRecDepth 20000 in
theorem gX2_lockAt_X0_addressAt : GoodIn wsX2_lockAt (wsV RX2 110 RX0 yX0_addressAt wsX0_addressAt) := goodIn_app (goodIn_of _ (by decide +kernel)) ggX2_lockAt_X0_addressAt
theorem dX2_lockAt_0 : decode cX2_lockAt 0 = .ok (.aload_n 0, 1) := by decide +kernel
theorem dX2_lockAt_1 : decode cX2_lockAt 1 = .ok (.iload_n 1, 1) := by decide +kernel
theorem dX2_lockAt_2 : decode cX2_lockAt 2 = .ok (.invokevirtual 35, 3) := by decide +kernel
theorem dX2_lockAt_5 : decode cX2_lockAt 5 = .ok (.getfield 89, 3) := by decide +kernel
theorem dX2_lockAt_8 : decode cX2_lockAt 8 = .ok (.astore_n 3, 1) := by decide +kernel
theorem dX2_lockAt_9 : decode cX2_lockAt 9 = .ok (.iload_n 2, 1) := by decide +kernel
theorem dX2_lockAt_10 : decode cX2_lockAt 10 = .ok (.ifCond .lt 11, 3) := by decide +kernel
theorem dX2_lockAt_13 : decode cX2_lockAt 13 = .ok (.iload_n 2, 1) := by decide +kernel
theorem dX2_lockAt_14 : decode cX2_lockAt 14 = .ok (.aload_n 3, 1) := by decide +kernel
theorem dX2_lockAt_15 : decode cX2_lockAt 15 = .ok (.getfield 102, 3) := by decide +kernel
theorem dX2_lockAt_18 : decode cX2_lockAt 18 = .ok (.if_icmp .lt 13, 3) := by decide +kernel
theorem dX2_lockAt_21 : decode cX2_lockAt 21 = .ok (.new 105, 3) := by decide +kernel
theorem dX2_lockAt_24 : decode cX2_lockAt 24 = .ok (.dup, 1) := by decide +kernel
theorem dX2_lockAt_25 : decode cX2_lockAt 25 = .ok (.ldc 107, 2) := by decide +kernel
theorem dX2_lockAt_27 : decode cX2_lockAt 27 = .ok (.invokespecial 109, 3) := by decide +kernel
theorem dX2_lockAt_30 : decode cX2_lockAt 30 = .ok (.athrow, 1) := by decide +kernel
theorem dX2_lockAt_31 : decode cX2_lockAt 31 = .ok (.aload_n 3, 1) := by decide +kernel
theorem dX2_lockAt_32 : decode cX2_lockAt 32 = .ok (.iload_n 2, 1) := by decide +kernel
theorem dX2_lockAt_33 : decode cX2_lockAt 33 = .ok (.invokevirtual 110, 3) := by decide +kernel
theorem dX2_lockAt_36 : decode cX2_lockAt 36 = .ok (.ireturn, 1) := by decide +kernel
set_option maxRecDepth 20000 in
theorem ggX2_blockedBy_X2_taskOf : GoodIn wsX2_blockedBy wsX2_taskOf := goodIn_ca (goodIn_r _ [5, 6, 7, 8, 36, 37, 38, 39, 40, 41] (by decide +kernel) (by decide +kernel)) (goodIn_sub (fun _ h => List.mem_cons_of_mem _ (List.mem_append_right _ h)) (by decide +kernel))
set_option maxRecDepth 20000 in
theorem gX2_blockedBy_X2_taskOf : GoodIn wsX2_blockedBy (wsV RX2 35 RX2 yX2_taskOf wsX2_taskOf) := goodIn_app (goodIn_of _ (by decide +kernel)) ggX2_blockedBy_X2_taskOf
set_option maxRecDepth 20000 in
theorem ggX2_blockedBy_X1_bit : GoodIn wsX2_blockedBy wsX1_bit := goodIn_r _ [13, 14, 42, 43, 44, 45, 46, 47, 48, 49, 50, 51, 52] (by decide +kernel) (by decide +kernel)
set_option maxRecDepth 20000 in
theorem gX2_blockedBy_X1_bit : GoodIn wsX2_blockedBy (wsV RX2 114 RX1 yX1_bit wsX1_bit) := goodIn_app (goodIn_of _ (by decide +kernel)) ggX2_blockedBy_X1_bit
set_option maxRecDepth 20000 in
theorem ggX2_blockedBy_X2_blockedByOneOf : GoodIn wsX2_blockedBy wsX2_blockedByOneOf := goodIn_r _ [18, 8, 19, 20, 21, 22, 23, 4, 24, 25, 26, 27, 28, 9, 10, 11, 12, 13, 14, 36, 37, 38, 39, 40, 41, 42, 43, 44, 45, 46, 47, 48, 49, 50, 51, 52] (by decide +kernel) (by decide +kernel)
set_option maxRecDepth 20000 in
theorem gX2_blockedBy_X2_blockedByOneOf : GoodIn wsX2_blockedBy (wsV RX2 118 RX2 yX2_blockedByOneOf wsX2_blockedByOneOf) := goodIn_app (goodIn_of _ (by decide +kernel)) ggX2_blockedBy_X2_blockedByOneOf
set_option maxRecDepth 20000 in
theorem ggX2_blockedBy_J6_bitCount_0f7a4 : GoodIn wsX2_blockedBy wsJ6_bitCount_0f7a4 := goodIn_r _ [32, 33, 34, 35] (by decide +kernel) (by decide +kernel)
set_option maxRecDepth 20000 in
theorem gX2_blockedBy_J6_bitCount_0f7a4 : GoodIn wsX2_blockedBy (va_wsS RX2 121 yJ6_bitCount_0f7a4 wsJ6_bitCount_0f7a4) := goodIn_app (goodIn_of _ (by decide +kernel)) ggX2_blockedBy_J6_bitCount_0f7a4
theorem dX2_blockedBy_0 : decode cX2_blockedBy 0 = .ok (.aload_n 0, 1) := by decide +kernel
theorem dX2_blockedBy_1 : decode cX2_blockedBy 1 = .ok (.iload_n 1, 1) := by decide +kernel
theorem dX2_blockedBy_2 : decode cX2_blockedBy 2 = .ok (.invokevirtual 35, 3) := by decide +kernel
theorem dX2_blockedBy_5 : decode cX2_blockedBy 5 = .ok (.invokevirtual 114, 3) := by decide +kernel
theorem dX2_blockedBy_8 : decode cX2_blockedBy 8 = .ok (.istore_n 2, 1) := by decide +kernel
theorem dX2_blockedBy_9 : decode cX2_blockedBy 9 = .ok (.iconst 0, 1) := by decide +kernel
theorem dX2_blockedBy_10 : decode cX2_blockedBy 10 = .ok (.istore_n 3, 1) := by decide +kernel
theorem dX2_blockedBy_11 : decode cX2_blockedBy 11 = .ok (.iload_n 3, 1) := by decide +kernel
theorem dX2_blockedBy_12 : decode cX2_blockedBy 12 = .ok (.bipush 8, 2) := by decide +kernel
theorem dX2_blockedBy_14 : decode cX2_blockedBy 14 = .ok (.if_icmp .ge 17, 3) := by decide +kernel
theorem dX2_blockedBy_17 : decode cX2_blockedBy 17 = .ok (.iload_n 2, 1) := by decide +kernel
theorem dX2_blockedBy_18 : decode cX2_blockedBy 18 = .ok (.aload_n 0, 1) := by decide +kernel
theorem dX2_blockedBy_19 : decode cX2_blockedBy 19 = .ok (.iload_n 2, 1) := by decide +kernel
theorem dX2_blockedBy_20 : decode cX2_blockedBy 20 = .ok (.invokevirtual 118, 3) := by decide +kernel
theorem dX2_blockedBy_23 : decode cX2_blockedBy 23 = .ok (.ior, 1) := by decide +kernel
theorem dX2_blockedBy_24 : decode cX2_blockedBy 24 = .ok (.istore_n 2, 1) := by decide +kernel
theorem dX2_blockedBy_25 : decode cX2_blockedBy 25 = .ok (.iinc 3 1, 3) := by decide +kernel
theorem dX2_blockedBy_28 : decode cX2_blockedBy 28 = .ok (.goto (-17), 3) := by decide +kernel
theorem dX2_blockedBy_31 : decode cX2_blockedBy 31 = .ok (.iload_n 2, 1) := by decide +kernel
theorem dX2_blockedBy_32 : decode cX2_blockedBy 32 = .ok (.invokestatic 121, 3) := by decide +kernel
theorem dX2_blockedBy_35 : decode cX2_blockedBy 35 = .ok (.iconst 1, 1) := by decide +kernel
theorem dX2_blockedBy_36 : decode cX2_blockedBy 36 = .ok (.isub, 1) := by decide +kernel
theorem dX2_blockedBy_37 : decode cX2_blockedBy 37 = .ok (.ireturn, 1) := by decide +kernel
set_option maxRecDepth 20000 in
theorem ggX2_interrupt_X2_taskOf : GoodIn wsX2_interrupt wsX2_taskOf := goodIn_ca (goodIn_r _ [7, 8, 9, 10, 51, 52, 53, 54, 55, 56] (by decide +kernel) (by decide +kernel)) (goodIn_sub (fun _ h => List.mem_cons_of_mem _ (List.mem_append_right _ h)) (by decide +kernel))
set_option maxRecDepth 20000 in
theorem gX2_interrupt_X2_taskOf : GoodIn wsX2_interrupt (wsV RX2 35 RX2 yX2_taskOf wsX2_taskOf) := goodIn_app (goodIn_of _ (by decide +kernel)) ggX2_interrupt_X2_taskOf
set_option maxRecDepth 20000 in
theorem ggX2_interrupt_X1_isQueued : GoodIn wsX2_interrupt wsX1_isQueued := goodIn_r _ [15, 16, 57, 58, 59, 60, 61, 62, 63, 64, 65, 66, 67] (by decide +kernel) (by decide +kernel)
set_option maxRecDepth 20000 in
theorem gX2_interrupt_X1_isQueued : GoodIn wsX2_interrupt (wsV RX2 126 RX1 yX1_isQueued wsX1_isQueued) := goodIn_app (goodIn_of _ (by decide +kernel)) ggX2_interrupt_X1_isQueued
set_option maxRecDepth 20000 in
theorem ggX2_interrupt_X2_endWait : GoodIn wsX2_interrupt wsX2_endWait := goodIn_r _ [20, 21, 22, 23, 24, 25, 26, 6, 27, 28, 29, 30, 31, 32, 33, 34, 35, 36, 37, 38, 39, 40, 41, 42, 43, 10, 44, 45, 46, 47, 14, 48, 49, 50, 57, 58, 59, 60, 61, 62, 63, 64, 65, 66, 67, 51, 52, 53, 54, 55, 56] (by decide +kernel) (by decide +kernel)
set_option maxRecDepth 20000 in
theorem gX2_interrupt_X2_endWait : GoodIn wsX2_interrupt (wsV RX2 132 RX2 yX2_endWait wsX2_endWait) := goodIn_app (goodIn_of _ (by decide +kernel)) ggX2_interrupt_X2_endWait
theorem dX2_interrupt_0 : decode cX2_interrupt 0 = .ok (.aload_n 0, 1) := by decide +kernel
theorem dX2_interrupt_1 : decode cX2_interrupt 1 = .ok (.iload_n 1, 1) := by decide +kernel
theorem dX2_interrupt_2 : decode cX2_interrupt 2 = .ok (.invokevirtual 35, 3) := by decide +kernel
theorem dX2_interrupt_5 : decode cX2_interrupt 5 = .ok (.astore_n 2, 1) := by decide +kernel
theorem dX2_interrupt_6 : decode cX2_interrupt 6 = .ok (.aload_n 2, 1) := by decide +kernel
theorem dX2_interrupt_7 : decode cX2_interrupt 7 = .ok (.invokevirtual 126, 3) := by decide +kernel
theorem dX2_interrupt_10 : decode cX2_interrupt 10 = .ok (.ifCond .ne 13, 3) := by decide +kernel
theorem dX2_interrupt_13 : decode cX2_interrupt 13 = .ok (.new 84, 3) := by decide +kernel
theorem dX2_interrupt_16 : decode cX2_interrupt 16 = .ok (.dup, 1) := by decide +kernel
theorem dX2_interrupt_17 : decode cX2_interrupt 17 = .ok (.ldc 130, 2) := by decide +kernel
theorem dX2_interrupt_19 : decode cX2_interrupt 19 = .ok (.invokespecial 88, 3) := by decide +kernel
theorem dX2_interrupt_22 : decode cX2_interrupt 22 = .ok (.athrow, 1) := by decide +kernel
theorem dX2_interrupt_23 : decode cX2_interrupt 23 = .ok (.aload_n 0, 1) := by decide +kernel
theorem dX2_interrupt_24 : decode cX2_interrupt 24 = .ok (.aload_n 2, 1) := by decide +kernel
theorem dX2_interrupt_25 : decode cX2_interrupt 25 = .ok (.iconst 2, 1) := by decide +kernel
theorem dX2_interrupt_26 : decode cX2_interrupt 26 = .ok (.invokevirtual 132, 3) := by decide +kernel
theorem dX2_interrupt_29 : decode cX2_interrupt 29 = .ok (.return_, 1) := by decide +kernel
set_option maxRecDepth 20000 in
theorem ggX2_exit_X2_taskOf : GoodIn wsX2_exit wsX2_taskOf := goodIn_ca (goodIn_r _ [8, 9, 10, 11, 103, 104, 105, 106, 107, 108] (by decide +kernel) (by decide +kernel)) (goodIn_sub (fun _ h => List.mem_cons_of_mem _ (List.mem_append_left _ (List.mem_append_right _ h))) (by decide +kernel))
set_option maxRecDepth 20000 in
theorem gX2_exit_X2_taskOf : GoodIn wsX2_exit (wsV RX2 35 RX2 yX2_taskOf wsX2_taskOf) := goodIn_app (goodIn_of _ (by decide +kernel)) ggX2_exit_X2_taskOf
set_option maxRecDepth 20000 in
theorem ggX2_exit_X2_requireAlive : GoodIn wsX2_exit wsX2_requireAlive := goodIn_ca (goodIn_r _ [14, 15, 16, 1, 90, 91, 92, 93, 94, 95, 96, 97, 98, 99, 100] (by decide +kernel) (by decide +kernel)) (goodIn_sub (fun _ h => List.mem_cons_of_mem _ (List.mem_append_right _ h)) (by decide +kernel))
set_option maxRecDepth 20000 in
theorem gX2_exit_X2_requireAlive : GoodIn wsX2_exit (va_wsS RX2 136 yX2_requireAlive wsX2_requireAlive) := goodIn_app (goodIn_of _ (by decide +kernel)) ggX2_exit_X2_requireAlive
set_option maxRecDepth 20000 in
theorem ggX2_exit_X1_isQueued : GoodIn wsX2_exit wsX1_isQueued := goodIn_r _ [21, 22, 90, 91, 92, 93, 94, 95, 96, 97, 98, 99, 100] (by decide +kernel) (by decide +kernel)
set_option maxRecDepth 20000 in
theorem gX2_exit_X1_isQueued : GoodIn wsX2_exit (wsV RX2 126 RX1 yX1_isQueued wsX1_isQueued) := goodIn_app (goodIn_of _ (by decide +kernel)) ggX2_exit_X1_isQueued
set_option maxRecDepth 20000 in
theorem ggX2_exit_X2_leaveQueue : GoodIn wsX2_exit wsX2_leaveQueue := goodIn_r _ [26, 27, 1, 28, 29, 30, 31, 32, 7, 33, 34, 35, 36, 37, 38, 39, 40, 41, 11, 42, 43, 44, 45, 20, 46, 47, 48, 90, 91, 92, 93, 94, 95, 96, 97, 98, 99, 100, 103, 104, 105, 106, 107, 108] (by decide +kernel) (by decide +kernel)
set_option maxRecDepth 20000 in
theorem gX2_exit_X2_leaveQueue : GoodIn wsX2_exit (wsV RX2 139 RX2 yX2_leaveQueue wsX2_leaveQueue) := goodIn_app (goodIn_of _ (by decide +kernel)) ggX2_exit_X2_leaveQueue
set_option maxRecDepth 20000 in
theorem ggX2_exit_X0_addressAt : GoodIn wsX2_exit wsX0_addressAt := goodIn_r _ [53, 54, 55, 101, 102] (by decide +kernel) (by decide +kernel)
set_option maxRecDepth 20000 in
theorem gX2_exit_X0_addressAt : GoodIn wsX2_exit (wsV RX2 110 RX0 yX0_addressAt wsX0_addressAt) := goodIn_app (goodIn_of _ (by decide +kernel)) ggX2_exit_X0_addressAt
set_option maxRecDepth 20000 in
theorem ggX2_exit_X2_ownerAt : GoodIn wsX2_exit wsX2_ownerAt := goodIn_r _ [59, 29, 11, 31, 32, 7, 33, 103, 104, 105, 106, 107, 108] (by decide +kernel) (by decide +kernel)
set_option maxRecDepth 20000 in
theorem gX2_exit_X2_ownerAt : GoodIn wsX2_exit (wsV RX2 73 RX2 yX2_ownerAt wsX2_ownerAt) := goodIn_app (goodIn_of _ (by decide +kernel)) ggX2_exit_X2_ownerAt
set_option maxRecDepth 20000 in
theorem ggX2_exit_X2_passOn : GoodIn wsX2_exit wsX2_passOn := goodIn_r _ [63, 64, 65, 29, 34, 35, 36, 7, 37, 38, 39, 40, 41, 11, 27, 1, 42, 43, 44, 45, 20, 46, 47, 48, 66, 67, 68, 69, 70, 71, 72, 23, 24, 25, 26, 28, 30, 31, 32, 33, 73, 74, 75, 76, 77, 2, 78, 79, 80, 52, 81, 54, 55, 82, 83, 84, 85, 90, 91, 92, 93, 94, 95, 96, 97, 98, 99, 100, 103, 104, 105, 106, 107, 108, 101, 102] (by decide +kernel) (by decide +kernel)
set_option maxRecDepth 20000 in
theorem gX2_exit_X2_passOn : GoodIn wsX2_exit (wsV RX2 98 RX2 yX2_passOn wsX2_passOn) := goodIn_app (goodIn_of _ (by decide +kernel)) ggX2_exit_X2_passOn
set_option maxRecDepth 20000 in
theorem ggX2_exit_X0_clear : GoodIn wsX2_exit wsX0_clear := goodIn_r _ [89, 54, 101, 102] (by decide +kernel) (by decide +kernel)
set_option maxRecDepth 20000 in
theorem gX2_exit_X0_clear : GoodIn wsX2_exit (wsV RX2 142 RX0 yX0_clear wsX0_clear) := goodIn_app (goodIn_of _ (by decide +kernel)) ggX2_exit_X0_clear
theorem dX2_exit_0 : decode cX2_exit 0 = .ok (.aload_n 0, 1) := by decide +kernel
theorem dX2_exit_1 : decode cX2_exit 1 = .ok (.iload_n 1, 1) := by decide +kernel
theorem dX2_exit_2 : decode cX2_exit 2 = .ok (.invokevirtual 35, 3) := by decide +kernel
theorem dX2_exit_5 : decode cX2_exit 5 = .ok (.astore_n 2, 1) := by decide +kernel
theorem dX2_exit_6 : decode cX2_exit 6 = .ok (.aload_n 2, 1) := by decide +kernel
theorem dX2_exit_7 : decode cX2_exit 7 = .ok (.invokestatic 136, 3) := by decide +kernel
theorem dX2_exit_10 : decode cX2_exit 10 = .ok (.aload_n 2, 1) := by decide +kernel
theorem dX2_exit_11 : decode cX2_exit 11 = .ok (.invokevirtual 126, 3) := by decide +kernel
theorem dX2_exit_14 : decode cX2_exit 14 = .ok (.ifCond .eq 8, 3) := by decide +kernel
theorem dX2_exit_17 : decode cX2_exit 17 = .ok (.aload_n 0, 1) := by decide +kernel
theorem dX2_exit_18 : decode cX2_exit 18 = .ok (.aload_n 2, 1) := by decide +kernel
theorem dX2_exit_19 : decode cX2_exit 19 = .ok (.invokevirtual 139, 3) := by decide +kernel
theorem dX2_exit_22 : decode cX2_exit 22 = .ok (.aload_n 2, 1) := by decide +kernel
theorem dX2_exit_23 : decode cX2_exit 23 = .ok (.iconst 3, 1) := by decide +kernel
theorem dX2_exit_24 : decode cX2_exit 24 = .ok (.putfield 76, 3) := by decide +kernel
theorem dX2_exit_27 : decode cX2_exit 27 = .ok (.iconst 0, 1) := by decide +kernel
theorem dX2_exit_28 : decode cX2_exit 28 = .ok (.istore_n 3, 1) := by decide +kernel
theorem dX2_exit_29 : decode cX2_exit 29 = .ok (.aload_n 2, 1) := by decide +kernel
theorem dX2_exit_30 : decode cX2_exit 30 = .ok (.getfield 89, 3) := by decide +kernel
theorem dX2_exit_33 : decode cX2_exit 33 = .ok (.getfield 102, 3) := by decide +kernel
theorem dX2_exit_36 : decode cX2_exit 36 = .ok (.istore 4, 2) := by decide +kernel
theorem dX2_exit_38 : decode cX2_exit 38 = .ok (.iconst 0, 1) := by decide +kernel
theorem dX2_exit_39 : decode cX2_exit 39 = .ok (.istore 5, 2) := by decide +kernel
theorem dX2_exit_41 : decode cX2_exit 41 = .ok (.iload 5, 2) := by decide +kernel
theorem dX2_exit_43 : decode cX2_exit 43 = .ok (.iload 4, 2) := by decide +kernel
theorem dX2_exit_45 : decode cX2_exit 45 = .ok (.if_icmp .ge 41, 3) := by decide +kernel
theorem dX2_exit_48 : decode cX2_exit 48 = .ok (.aload_n 2, 1) := by decide +kernel
theorem dX2_exit_49 : decode cX2_exit 49 = .ok (.getfield 89, 3) := by decide +kernel
theorem dX2_exit_52 : decode cX2_exit 52 = .ok (.iload 5, 2) := by decide +kernel
theorem dX2_exit_54 : decode cX2_exit 54 = .ok (.invokevirtual 110, 3) := by decide +kernel
theorem dX2_exit_57 : decode cX2_exit 57 = .ok (.istore 6, 2) := by decide +kernel
theorem dX2_exit_59 : decode cX2_exit 59 = .ok (.aload_n 0, 1) := by decide +kernel
theorem dX2_exit_60 : decode cX2_exit 60 = .ok (.iload 6, 2) := by decide +kernel
theorem dX2_exit_62 : decode cX2_exit 62 = .ok (.invokevirtual 73, 3) := by decide +kernel
theorem dX2_exit_65 : decode cX2_exit 65 = .ok (.aload_n 2, 1) := by decide +kernel
theorem dX2_exit_66 : decode cX2_exit 66 = .ok (.if_acmp .ne 14, 3) := by decide +kernel
theorem dX2_exit_69 : decode cX2_exit 69 = .ok (.aload_n 0, 1) := by decide +kernel
theorem dX2_exit_70 : decode cX2_exit 70 = .ok (.iload 6, 2) := by decide +kernel
theorem dX2_exit_72 : decode cX2_exit 72 = .ok (.iconst 1, 1) := by decide +kernel
theorem dX2_exit_73 : decode cX2_exit 73 = .ok (.invokevirtual 98, 3) := by decide +kernel
theorem dX2_exit_76 : decode cX2_exit 76 = .ok (.pop, 1) := by decide +kernel
theorem dX2_exit_77 : decode cX2_exit 77 = .ok (.iinc 3 1, 3) := by decide +kernel
theorem dX2_exit_80 : decode cX2_exit 80 = .ok (.iinc 5 1, 3) := by decide +kernel
theorem dX2_exit_83 : decode cX2_exit 83 = .ok (.goto (-42), 3) := by decide +kernel
theorem dX2_exit_86 : decode cX2_exit 86 = .ok (.aload_n 2, 1) := by decide +kernel
theorem dX2_exit_87 : decode cX2_exit 87 = .ok (.getfield 89, 3) := by decide +kernel
theorem dX2_exit_90 : decode cX2_exit 90 = .ok (.invokevirtual 142, 3) := by decide +kernel
theorem dX2_exit_93 : decode cX2_exit 93 = .ok (.iload_n 3, 1) := by decide +kernel
theorem dX2_exit_94 : decode cX2_exit 94 = .ok (.ireturn, 1) := by decide +kernel
set_option maxRecDepth 20000 in
theorem ggX2_start_X2_taskOf : GoodIn wsX2_start wsX2_taskOf := goodIn_ca (goodIn_r _ [11, 12, 13, 14, 26, 27, 28, 29, 30, 31] (by decide +kernel) (by decide +kernel)) (goodIn_sub (fun _ h => List.mem_cons_of_mem _ (List.mem_append_right _ h)) (by decide +kernel))
set_option maxRecDepth 20000 in
theorem gX2_start_X2_taskOf : GoodIn wsX2_start (wsV RX2 35 RX2 yX2_taskOf wsX2_taskOf) := goodIn_app (goodIn_of _ (by decide +kernel)) ggX2_start_X2_taskOf
theorem dX2_start_0 : decode cX2_start 0 = .ok (.aload_n 0, 1) := by decide +kernel
theorem dX2_start_1 : decode cX2_start 1 = .ok (.iload_n 1, 1) := by decide +kernel
theorem dX2_start_2 : decode cX2_start 2 = .ok (.invokevirtual 35, 3) := by decide +kernel
theorem dX2_start_5 : decode cX2_start 5 = .ok (.astore_n 2, 1) := by decide +kernel
theorem dX2_start_6 : decode cX2_start 6 = .ok (.aload_n 2, 1) := by decide +kernel
theorem dX2_start_7 : decode cX2_start 7 = .ok (.getfield 76, 3) := by decide +kernel
theorem dX2_start_10 : decode cX2_start 10 = .ok (.iconst 3, 1) := by decide +kernel
theorem dX2_start_11 : decode cX2_start 11 = .ok (.if_icmp .eq 13, 3) := by decide +kernel
theorem dX2_start_14 : decode cX2_start 14 = .ok (.new 84, 3) := by decide +kernel
theorem dX2_start_17 : decode cX2_start 17 = .ok (.dup, 1) := by decide +kernel
theorem dX2_start_18 : decode cX2_start 18 = .ok (.ldc 145, 2) := by decide +kernel
theorem dX2_start_20 : decode cX2_start 20 = .ok (.invokespecial 88, 3) := by decide +kernel
theorem dX2_start_23 : decode cX2_start 23 = .ok (.athrow, 1) := by decide +kernel
theorem dX2_start_24 : decode cX2_start 24 = .ok (.aload_n 2, 1) := by decide +kernel
theorem dX2_start_25 : decode cX2_start 25 = .ok (.iconst 0, 1) := by decide +kernel
theorem dX2_start_26 : decode cX2_start 26 = .ok (.putfield 76, 3) := by decide +kernel
theorem dX2_start_29 : decode cX2_start 29 = .ok (.aload_n 2, 1) := by decide +kernel
theorem dX2_start_30 : decode cX2_start 30 = .ok (.iconst 0, 1) := by decide +kernel
theorem dX2_start_31 : decode cX2_start 31 = .ok (.putfield 147, 3) := by decide +kernel
theorem dX2_start_34 : decode cX2_start 34 = .ok (.aload_n 2, 1) := by decide +kernel
theorem dX2_start_35 : decode cX2_start 35 = .ok (.iconst (-1), 1) := by decide +kernel
theorem dX2_start_36 : decode cX2_start 36 = .ok (.putfield 150, 3) := by decide +kernel
theorem dX2_start_39 : decode cX2_start 39 = .ok (.aload_n 2, 1) := by decide +kernel
theorem dX2_start_40 : decode cX2_start 40 = .ok (.iconst 0, 1) := by decide +kernel
theorem dX2_start_41 : decode cX2_start 41 = .ok (.putfield 153, 3) := by decide +kernel
theorem dX2_start_44 : decode cX2_start 44 = .ok (.return_, 1) := by decide +kernel
set_option maxRecDepth 20000 in
theorem ggX2_setPriority_X2_taskOf : GoodIn wsX2_setPriority wsX2_taskOf := goodIn_ca (goodIn_r _ [7, 8, 9, 10, 45, 46, 47, 48, 49, 50] (by decide +kernel) (by decide +kernel)) (goodIn_sub (fun _ h => List.mem_cons_of_mem _ (List.mem_append_left _ (List.mem_append_left _ (List.mem_append_right _ h)))) (by decide +kernel))
set_option maxRecDepth 20000 in
theorem gX2_setPriority_X2_taskOf : GoodIn wsX2_setPriority (wsV RX2 35 RX2 yX2_taskOf wsX2_taskOf) := goodIn_app (goodIn_of _ (by decide +kernel)) ggX2_setPriority_X2_taskOf
set_option maxRecDepth 20000 in
theorem ggX2_setPriority_X2_requireBetween : GoodIn wsX2_setPriority wsX2_requireBetween := goodIn_ca (goodIn_r _ [13, 14, 15] (by decide +kernel) (by decide +kernel)) (goodIn_sub (fun _ h => List.mem_cons_of_mem _ (List.mem_append_left _ (List.mem_append_right _ h))) (by decide +kernel))
set_option maxRecDepth 20000 in
theorem gX2_setPriority_X2_requireBetween : GoodIn wsX2_setPriority (va_wsS RX2 46 yX2_requireBetween wsX2_requireBetween) := goodIn_app (goodIn_of _ (by decide +kernel)) ggX2_setPriority_X2_requireBetween
set_option maxRecDepth 20000 in
theorem ggX2_setPriority_X2_requireAlive : GoodIn wsX2_setPriority wsX2_requireAlive := goodIn_ca (goodIn_r _ [18, 19, 20, 21, 34, 35, 36, 37, 38, 39, 40, 41, 42, 43, 44] (by decide +kernel) (by decide +kernel)) (goodIn_sub (fun _ h => List.mem_cons_of_mem _ (List.mem_append_right _ h)) (by decide +kernel))
set_option maxRecDepth 20000 in
theorem gX2_setPriority_X2_requireAlive : GoodIn wsX2_setPriority (va_wsS RX2 136 yX2_requireAlive wsX2_requireAlive) := goodIn_app (goodIn_of _ (by decide +kernel)) ggX2_setPriority_X2_requireAlive
set_option maxRecDepth 20000 in
theorem ggX2_setPriority_X1_isQueued : GoodIn wsX2_setPriority wsX1_isQueued := goodIn_r _ [26, 27, 34, 35, 36, 37, 38, 39, 40, 41, 42, 43, 44] (by decide +kernel) (by decide +kernel)
set_option maxRecDepth 20000 in
theorem gX2_setPriority_X1_isQueued : GoodIn wsX2_setPriority (wsV RX2 126 RX1 yX1_isQueued wsX1_isQueued) := goodIn_app (goodIn_of _ (by decide +kernel)) ggX2_setPriority_X1_isQueued
set_option maxRecDepth 20000 in
theorem ggX2_setPriority_X2_joinQueue : GoodIn wsX2_setPriority wsX2_joinQueue := goodIn_r _ [31, 2, 32, 33, 34, 35, 36, 37, 38, 39, 40, 41, 42, 43, 44, 45, 46, 47, 48, 49, 50] (by decide +kernel) (by decide +kernel)
set_option maxRecDepth 20000 in
theorem gX2_setPriority_X2_joinQueue : GoodIn wsX2_setPriority (wsV RX2 159 RX2 yX2_joinQueue wsX2_joinQueue) := goodIn_app (goodIn_of _ (by decide +kernel)) ggX2_setPriority_X2_joinQueue
theorem dX2_setPriority_0 : decode cX2_setPriority 0 = .ok (.aload_n 0, 1) := by decide +kernel
theorem dX2_setPriority_1 : decode cX2_setPriority 1 = .ok (.iload_n 1, 1) := by decide +kernel
theorem dX2_setPriority_2 : decode cX2_setPriority 2 = .ok (.invokevirtual 35, 3) := by decide +kernel
theorem dX2_setPriority_5 : decode cX2_setPriority 5 = .ok (.astore_n 3, 1) := by decide +kernel
theorem dX2_setPriority_6 : decode cX2_setPriority 6 = .ok (.iload_n 2, 1) := by decide +kernel
theorem dX2_setPriority_7 : decode cX2_setPriority 7 = .ok (.iconst 0, 1) := by decide +kernel
theorem dX2_setPriority_8 : decode cX2_setPriority 8 = .ok (.bipush 9, 2) := by decide +kernel
theorem dX2_setPriority_10 : decode cX2_setPriority 10 = .ok (.invokestatic 46, 3) := by decide +kernel
theorem dX2_setPriority_13 : decode cX2_setPriority 13 = .ok (.aload_n 3, 1) := by decide +kernel
theorem dX2_setPriority_14 : decode cX2_setPriority 14 = .ok (.invokestatic 136, 3) := by decide +kernel
theorem dX2_setPriority_17 : decode cX2_setPriority 17 = .ok (.aload_n 3, 1) := by decide +kernel
theorem dX2_setPriority_18 : decode cX2_setPriority 18 = .ok (.getfield 147, 3) := by decide +kernel
theorem dX2_setPriority_21 : decode cX2_setPriority 21 = .ok (.istore 4, 2) := by decide +kernel
theorem dX2_setPriority_23 : decode cX2_setPriority 23 = .ok (.iload_n 2, 1) := by decide +kernel
theorem dX2_setPriority_24 : decode cX2_setPriority 24 = .ok (.iload 4, 2) := by decide +kernel
theorem dX2_setPriority_26 : decode cX2_setPriority 26 = .ok (.if_icmp .eq 24, 3) := by decide +kernel
theorem dX2_setPriority_29 : decode cX2_setPriority 29 = .ok (.aload_n 3, 1) := by decide +kernel
theorem dX2_setPriority_30 : decode cX2_setPriority 30 = .ok (.iload_n 2, 1) := by decide +kernel
theorem dX2_setPriority_31 : decode cX2_setPriority 31 = .ok (.putfield 147, 3) := by decide +kernel
theorem dX2_setPriority_34 : decode cX2_setPriority 34 = .ok (.aload_n 3, 1) := by decide +kernel
theorem dX2_setPriority_35 : decode cX2_setPriority 35 = .ok (.invokevirtual 126, 3) := by decide +kernel
theorem dX2_setPriority_38 : decode cX2_setPriority 38 = .ok (.ifCond .eq 12, 3) := by decide +kernel
theorem dX2_setPriority_41 : decode cX2_setPriority 41 = .ok (.aload_n 0, 1) := by decide +kernel
theorem dX2_setPriority_42 : decode cX2_setPriority 42 = .ok (.aload_n 3, 1) := by decide +kernel
theorem dX2_setPriority_43 : decode cX2_setPriority 43 = .ok (.aload_n 3, 1) := by decide +kernel
theorem dX2_setPriority_44 : decode cX2_setPriority 44 = .ok (.getfield 156, 3) := by decide +kernel
theorem dX2_setPriority_47 : decode cX2_setPriority 47 = .ok (.invokevirtual 159, 3) := by decide +kernel
theorem dX2_setPriority_50 : decode cX2_setPriority 50 = .ok (.iload 4, 2) := by decide +kernel
theorem dX2_setPriority_52 : decode cX2_setPriority 52 = .ok (.ireturn, 1) := by decide +kernel
set_option maxRecDepth 20000 in
theorem ggX2_tick_X2_requireBetween : GoodIn wsX2_tick wsX2_requireBetween := goodIn_ca (goodIn_r _ [6, 7, 8] (by decide +kernel) (by decide +kernel)) (goodIn_sub (fun _ h => List.mem_cons_of_mem _ (List.mem_append_right _ h)) (by decide +kernel))
set_option maxRecDepth 20000 in
theorem gX2_tick_X2_requireBetween : GoodIn wsX2_tick (va_wsS RX2 46 yX2_requireBetween wsX2_requireBetween) := goodIn_app (goodIn_of _ (by decide +kernel)) ggX2_tick_X2_requireBetween
set_option maxRecDepth 20000 in
theorem ggX2_tick_X2_firstToTimeOut : GoodIn wsX2_tick wsX2_firstToTimeOut := goodIn_r _ [12, 13, 2, 14, 15, 16, 17, 18, 19, 20, 54, 55, 56, 57, 58, 59, 60, 61, 62, 63, 64, 65, 66, 67, 68, 69, 70] (by decide +kernel) (by decide +kernel)
set_option maxRecDepth 20000 in
theorem gX2_tick_X2_firstToTimeOut : GoodIn wsX2_tick (wsV RX2 162 RX2 yX2_firstToTimeOut wsX2_firstToTimeOut) := goodIn_app (goodIn_of _ (by decide +kernel)) ggX2_tick_X2_firstToTimeOut
set_option maxRecDepth 20000 in
theorem ggX2_tick_X2_endWait : GoodIn wsX2_tick wsX2_endWait := goodIn_r _ [24, 25, 26, 27, 28, 29, 30, 5, 31, 32, 33, 2, 34, 35, 36, 37, 38, 39, 40, 41, 42, 43, 44, 45, 46, 13, 47, 48, 49, 50, 17, 51, 52, 53, 60, 61, 62, 63, 64, 65, 66, 67, 68, 69, 70, 54, 55, 56, 57, 58, 59] (by decide +kernel) (by decide +kernel)
set_option maxRecDepth 20000 in
theorem gX2_tick_X2_endWait : GoodIn wsX2_tick (wsV RX2 132 RX2 yX2_endWait wsX2_endWait) := goodIn_app (goodIn_of _ (by decide +kernel)) ggX2_tick_X2_endWait
theorem dX2_tick_0 : decode cX2_tick 0 = .ok (.iload_n 1, 1) := by decide +kernel
theorem dX2_tick_1 : decode cX2_tick 1 = .ok (.iconst 1, 1) := by decide +kernel
theorem dX2_tick_2 : decode cX2_tick 2 = .ok (.sipush 1000, 3) := by decide +kernel
theorem dX2_tick_5 : decode cX2_tick 5 = .ok (.invokestatic 46, 3) := by decide +kernel
theorem dX2_tick_8 : decode cX2_tick 8 = .ok (.aload_n 0, 1) := by decide +kernel
theorem dX2_tick_9 : decode cX2_tick 9 = .ok (.getfield 19, 3) := by decide +kernel
theorem dX2_tick_12 : decode cX2_tick 12 = .ok (.iload_n 1, 1) := by decide +kernel
theorem dX2_tick_13 : decode cX2_tick 13 = .ok (.iadd, 1) := by decide +kernel
theorem dX2_tick_14 : decode cX2_tick 14 = .ok (.istore_n 2, 1) := by decide +kernel
theorem dX2_tick_15 : decode cX2_tick 15 = .ok (.iconst 0, 1) := by decide +kernel
theorem dX2_tick_16 : decode cX2_tick 16 = .ok (.istore_n 3, 1) := by decide +kernel
theorem dX2_tick_17 : decode cX2_tick 17 = .ok (.iconst 0, 1) := by decide +kernel
theorem dX2_tick_18 : decode cX2_tick 18 = .ok (.istore 4, 2) := by decide +kernel
theorem dX2_tick_20 : decode cX2_tick 20 = .ok (.iload 4, 2) := by decide +kernel
theorem dX2_tick_22 : decode cX2_tick 22 = .ok (.bipush 8, 2) := by decide +kernel
theorem dX2_tick_24 : decode cX2_tick 24 = .ok (.if_icmp .ge 42, 3) := by decide +kernel
theorem dX2_tick_27 : decode cX2_tick 27 = .ok (.aload_n 0, 1) := by decide +kernel
theorem dX2_tick_28 : decode cX2_tick 28 = .ok (.invokevirtual 162, 3) := by decide +kernel
theorem dX2_tick_31 : decode cX2_tick 31 = .ok (.astore 5, 2) := by decide +kernel
theorem dX2_tick_33 : decode cX2_tick 33 = .ok (.aload 5, 2) := by decide +kernel
theorem dX2_tick_35 : decode cX2_tick 35 = .ok (.ifnull 31, 3) := by decide +kernel
theorem dX2_tick_38 : decode cX2_tick 38 = .ok (.aload 5, 2) := by decide +kernel
theorem dX2_tick_40 : decode cX2_tick 40 = .ok (.getfield 166, 3) := by decide +kernel
theorem dX2_tick_43 : decode cX2_tick 43 = .ok (.iload_n 2, 1) := by decide +kernel
theorem dX2_tick_44 : decode cX2_tick 44 = .ok (.if_icmp .le 6, 3) := by decide +kernel
theorem dX2_tick_47 : decode cX2_tick 47 = .ok (.goto 19, 3) := by decide +kernel
theorem dX2_tick_50 : decode cX2_tick 50 = .ok (.aload_n 0, 1) := by decide +kernel
theorem dX2_tick_51 : decode cX2_tick 51 = .ok (.aload 5, 2) := by decide +kernel
theorem dX2_tick_53 : decode cX2_tick 53 = .ok (.iconst 1, 1) := by decide +kernel
theorem dX2_tick_54 : decode cX2_tick 54 = .ok (.invokevirtual 132, 3) := by decide +kernel
theorem dX2_tick_57 : decode cX2_tick 57 = .ok (.iinc 3 1, 3) := by decide +kernel
theorem dX2_tick_60 : decode cX2_tick 60 = .ok (.iinc 4 1, 3) := by decide +kernel
theorem dX2_tick_63 : decode cX2_tick 63 = .ok (.goto (-43), 3) := by decide +kernel
theorem dX2_tick_66 : decode cX2_tick 66 = .ok (.aload_n 0, 1) := by decide +kernel
theorem dX2_tick_67 : decode cX2_tick 67 = .ok (.iload_n 2, 1) := by decide +kernel
theorem dX2_tick_68 : decode cX2_tick 68 = .ok (.putfield 19, 3) := by decide +kernel
theorem dX2_tick_71 : decode cX2_tick 71 = .ok (.iload_n 3, 1) := by decide +kernel
theorem dX2_tick_72 : decode cX2_tick 72 = .ok (.ireturn, 1) := by decide +kernel
theorem dX2_now_0 : decode cX2_now 0 = .ok (.aload_n 0, 1) := by decide +kernel
theorem dX2_now_1 : decode cX2_now 1 = .ok (.getfield 19, 3) := by decide +kernel
theorem dX2_now_4 : decode cX2_now 4 = .ok (.ireturn, 1) := by decide +kernel
set_option maxRecDepth 20000 in
theorem ggX2_nextTimeout_X2_firstToTimeOut : GoodIn wsX2_nextTimeout wsX2_firstToTimeOut := goodIn_r _ [7, 8, 1, 9, 10, 11, 12, 13, 14, 15, 27, 28, 29, 30, 31, 32, 16, 17, 18, 19, 20, 21, 22, 23, 24, 25, 26] (by decide +kernel) (by decide +kernel)
set_option maxRecDepth 20000 in
theorem gX2_nextTimeout_X2_firstToTimeOut : GoodIn wsX2_nextTimeout (wsV RX2 162 RX2 yX2_firstToTimeOut wsX2_firstToTimeOut) := goodIn_app (goodIn_of _ (by decide +kernel)) ggX2_nextTimeout_X2_firstToTimeOut
theorem dX2_nextTimeout_0 : decode cX2_nextTimeout 0 = .ok (.aload_n 0, 1) := by decide +kernel
theorem dX2_nextTimeout_1 : decode cX2_nextTimeout 1 = .ok (.invokevirtual 162, 3) := by decide +kernel
theorem dX2_nextTimeout_4 : decode cX2_nextTimeout 4 = .ok (.astore_n 1, 1) := by decide +kernel
theorem dX2_nextTimeout_5 : decode cX2_nextTimeout 5 = .ok (.aload_n 1, 1) := by decide +kernel
theorem dX2_nextTimeout_6 : decode cX2_nextTimeout 6 = .ok (.ifnonnull 7, 3) := by decide +kernel
theorem dX2_nextTimeout_9 : decode cX2_nextTimeout 9 = .ok (.iconst (-1), 1) := by decide +kernel
theorem dX2_nextTimeout_10 : decode cX2_nextTimeout 10 = .ok (.goto 12, 3) := by decide +kernel
theorem dX2_nextTimeout_13 : decode cX2_nextTimeout 13 = .ok (.aload_n 1, 1) := by decide +kernel
theorem dX2_nextTimeout_14 : decode cX2_nextTimeout 14 = .ok (.getfield 166, 3) := by decide +kernel
theorem dX2_nextTimeout_17 : decode cX2_nextTimeout 17 = .ok (.aload_n 0, 1) := by decide +kernel
theorem dX2_nextTimeout_18 : decode cX2_nextTimeout 18 = .ok (.getfield 19, 3) := by decide +kernel
theorem dX2_nextTimeout_21 : decode cX2_nextTimeout 21 = .ok (.isub, 1) := by decide +kernel
theorem dX2_nextTimeout_22 : decode cX2_nextTimeout 22 = .ok (.ireturn, 1) := by decide +kernel
set_option maxRecDepth 20000 in
theorem ggX2_stateOf_X2_taskOf : GoodIn wsX2_stateOf wsX2_taskOf := goodIn_ca (goodIn_r _ [6, 7, 8, 9, 21, 22, 23, 24, 25, 26] (by decide +kernel) (by decide +kernel)) (goodIn_sub (fun _ h => List.mem_cons_of_mem _ (List.mem_append_right _ h)) (by decide +kernel))
set_option maxRecDepth 20000 in
theorem gX2_stateOf_X2_taskOf : GoodIn wsX2_stateOf (wsV RX2 35 RX2 yX2_taskOf wsX2_taskOf) := goodIn_app (goodIn_of _ (by decide +kernel)) ggX2_stateOf_X2_taskOf
theorem dX2_stateOf_0 : decode cX2_stateOf 0 = .ok (.aload_n 0, 1) := by decide +kernel
theorem dX2_stateOf_1 : decode cX2_stateOf 1 = .ok (.iload_n 1, 1) := by decide +kernel
theorem dX2_stateOf_2 : decode cX2_stateOf 2 = .ok (.invokevirtual 35, 3) := by decide +kernel
theorem dX2_stateOf_5 : decode cX2_stateOf 5 = .ok (.getfield 76, 3) := by decide +kernel
theorem dX2_stateOf_8 : decode cX2_stateOf 8 = .ok (.ireturn, 1) := by decide +kernel
set_option maxRecDepth 20000 in
theorem ggX2_addressOf_X2_taskOf : GoodIn wsX2_addressOf wsX2_taskOf := goodIn_ca (goodIn_r _ [6, 7, 8, 9, 21, 22, 23, 24, 25, 26] (by decide +kernel) (by decide +kernel)) (goodIn_sub (fun _ h => List.mem_cons_of_mem _ (List.mem_append_right _ h)) (by decide +kernel))
set_option maxRecDepth 20000 in
theorem gX2_addressOf_X2_taskOf : GoodIn wsX2_addressOf (wsV RX2 35 RX2 yX2_taskOf wsX2_taskOf) := goodIn_app (goodIn_of _ (by decide +kernel)) ggX2_addressOf_X2_taskOf
theorem dX2_addressOf_0 : decode cX2_addressOf 0 = .ok (.aload_n 0, 1) := by decide +kernel
theorem dX2_addressOf_1 : decode cX2_addressOf 1 = .ok (.iload_n 1, 1) := by decide +kernel
theorem dX2_addressOf_2 : decode cX2_addressOf 2 = .ok (.invokevirtual 35, 3) := by decide +kernel
theorem dX2_addressOf_5 : decode cX2_addressOf 5 = .ok (.getfield 156, 3) := by decide +kernel
theorem dX2_addressOf_8 : decode cX2_addressOf 8 = .ok (.ireturn, 1) := by decide +kernel
set_option maxRecDepth 20000 in
theorem ggX2_resultOf_X2_taskOf : GoodIn wsX2_resultOf wsX2_taskOf := goodIn_ca (goodIn_r _ [6, 7, 8, 9, 21, 22, 23, 24, 25, 26] (by decide +kernel) (by decide +kernel)) (goodIn_sub (fun _ h => List.mem_cons_of_mem _ (List.mem_append_right _ h)) (by decide +kernel))
set_option maxRecDepth 20000 in
theorem gX2_resultOf_X2_taskOf : GoodIn wsX2_resultOf (wsV RX2 35 RX2 yX2_taskOf wsX2_taskOf) := goodIn_app (goodIn_of _ (by decide +kernel)) ggX2_resultOf_X2_taskOf
theorem dX2_resultOf_0 : decode cX2_resultOf 0 = .ok (.aload_n 0, 1) := by decide +kernel
theorem dX2_resultOf_1 : decode cX2_resultOf 1 = .ok (.iload_n 1, 1) := by decide +kernel
theorem dX2_resultOf_2 : decode cX2_resultOf 2 = .ok (.invokevirtual 35, 3) := by decide +kernel
theorem dX2_resultOf_5 : decode cX2_resultOf 5 = .ok (.getfield 150, 3) := by decide +kernel
theorem dX2_resultOf_8 : decode cX2_resultOf 8 = .ok (.ireturn, 1) := by decide +kernel
set_option maxRecDepth 20000 in
theorem ggX2_serialOf_X2_taskOf : GoodIn wsX2_serialOf wsX2_taskOf := goodIn_ca (goodIn_r _ [6, 7, 8, 9, 21, 22, 23, 24, 25, 26] (by decide +kernel) (by decide +kernel)) (goodIn_sub (fun _ h => List.mem_cons_of_mem _ (List.mem_append_right _ h)) (by decide +kernel))
set_option maxRecDepth 20000 in
theorem gX2_serialOf_X2_taskOf : GoodIn wsX2_serialOf (wsV RX2 35 RX2 yX2_taskOf wsX2_taskOf) := goodIn_app (goodIn_of _ (by decide +kernel)) ggX2_serialOf_X2_taskOf
theorem dX2_serialOf_0 : decode cX2_serialOf 0 = .ok (.aload_n 0, 1) := by decide +kernel
theorem dX2_serialOf_1 : decode cX2_serialOf 1 = .ok (.iload_n 1, 1) := by decide +kernel
theorem dX2_serialOf_2 : decode cX2_serialOf 2 = .ok (.invokevirtual 35, 3) := by decide +kernel
theorem dX2_serialOf_5 : decode cX2_serialOf 5 = .ok (.getfield 153, 3) := by decide +kernel
theorem dX2_serialOf_8 : decode cX2_serialOf 8 = .ok (.ireturn, 1) := by decide +kernel
set_option maxRecDepth 20000 in
theorem ggX2_waiters_X2_requireAddress : GoodIn wsX2_waiters wsX2_requireAddress := goodIn_ca (goodIn_r _ [6, 7, 8, 9, 10, 5, 11] (by decide +kernel) (by decide +kernel)) (goodIn_sub (fun _ h => List.mem_cons_of_mem _ (List.mem_append_right _ h)) (by decide +kernel))
set_option maxRecDepth 20000 in
theorem gX2_waiters_X2_requireAddress : GoodIn wsX2_waiters (va_wsS RX2 39 yX2_requireAddress wsX2_requireAddress) := goodIn_app (goodIn_of _ (by decide +kernel)) ggX2_waiters_X2_requireAddress
theorem dX2_waiters_0 : decode cX2_waiters 0 = .ok (.iload_n 1, 1) := by decide +kernel
theorem dX2_waiters_1 : decode cX2_waiters 1 = .ok (.invokestatic 39, 3) := by decide +kernel
theorem dX2_waiters_4 : decode cX2_waiters 4 = .ok (.iconst 0, 1) := by decide +kernel
theorem dX2_waiters_5 : decode cX2_waiters 5 = .ok (.istore_n 2, 1) := by decide +kernel
theorem dX2_waiters_6 : decode cX2_waiters 6 = .ok (.aload_n 0, 1) := by decide +kernel
theorem dX2_waiters_7 : decode cX2_waiters 7 = .ok (.getfield 15, 3) := by decide +kernel
theorem dX2_waiters_10 : decode cX2_waiters 10 = .ok (.astore_n 3, 1) := by decide +kernel
theorem dX2_waiters_11 : decode cX2_waiters 11 = .ok (.aload_n 3, 1) := by decide +kernel
theorem dX2_waiters_12 : decode cX2_waiters 12 = .ok (.arraylength, 1) := by decide +kernel
theorem dX2_waiters_13 : decode cX2_waiters 13 = .ok (.istore 4, 2) := by decide +kernel
theorem dX2_waiters_15 : decode cX2_waiters 15 = .ok (.iconst 0, 1) := by decide +kernel
theorem dX2_waiters_16 : decode cX2_waiters 16 = .ok (.istore 5, 2) := by decide +kernel
theorem dX2_waiters_18 : decode cX2_waiters 18 = .ok (.iload 5, 2) := by decide +kernel
theorem dX2_waiters_20 : decode cX2_waiters 20 = .ok (.iload 4, 2) := by decide +kernel
theorem dX2_waiters_22 : decode cX2_waiters 22 = .ok (.if_icmp .ge 27, 3) := by decide +kernel
theorem dX2_waiters_25 : decode cX2_waiters 25 = .ok (.aload_n 3, 1) := by decide +kernel
theorem dX2_waiters_26 : decode cX2_waiters 26 = .ok (.iload 5, 2) := by decide +kernel
theorem dX2_waiters_28 : decode cX2_waiters 28 = .ok (.aaload, 1) := by decide +kernel
theorem dX2_waiters_29 : decode cX2_waiters 29 = .ok (.astore 6, 2) := by decide +kernel
theorem dX2_waiters_31 : decode cX2_waiters 31 = .ok (.aload 6, 2) := by decide +kernel
theorem dX2_waiters_33 : decode cX2_waiters 33 = .ok (.getfield 156, 3) := by decide +kernel
theorem dX2_waiters_36 : decode cX2_waiters 36 = .ok (.iload_n 1, 1) := by decide +kernel
theorem dX2_waiters_37 : decode cX2_waiters 37 = .ok (.if_icmp .ne 6, 3) := by decide +kernel
theorem dX2_waiters_40 : decode cX2_waiters 40 = .ok (.iinc 2 1, 3) := by decide +kernel
theorem dX2_waiters_43 : decode cX2_waiters 43 = .ok (.iinc 5 1, 3) := by decide +kernel
theorem dX2_waiters_46 : decode cX2_waiters 46 = .ok (.goto (-28), 3) := by decide +kernel
theorem dX2_waiters_49 : decode cX2_waiters 49 = .ok (.iload_n 2, 1) := by decide +kernel
theorem dX2_waiters_50 : decode cX2_waiters 50 = .ok (.ireturn, 1) := by decide +kernel
set_option maxRecDepth 20000 in
theorem ggX2_waiterAt_X2_requireAddress : GoodIn wsX2_waiterAt wsX2_requireAddress := goodIn_ca (goodIn_r _ [9, 1, 2, 10, 11, 8, 12] (by decide +kernel) (by decide +kernel)) (goodIn_sub (fun _ h => List.mem_cons_of_mem _ (List.mem_append_right _ h)) (by decide +kernel))
set_option maxRecDepth 20000 in
theorem gX2_waiterAt_X2_requireAddress : GoodIn wsX2_waiterAt (va_wsS RX2 39 yX2_requireAddress wsX2_requireAddress) := goodIn_app (goodIn_of _ (by decide +kernel)) ggX2_waiterAt_X2_requireAddress
set_option maxRecDepth 20000 in
theorem ggX2_waiterAt_X2_countAheadAtAddress : GoodIn wsX2_waiterAt wsX2_countAheadAtAddress := goodIn_r _ [16, 3, 4, 17, 18, 19, 20, 21, 22, 23, 24, 25, 26, 27, 28, 29, 30, 31, 32, 33, 34, 35, 36, 37, 38, 39, 40] (by decide +kernel) (by decide +kernel)
set_option maxRecDepth 20000 in
theorem gX2_waiterAt_X2_countAheadAtAddress : GoodIn wsX2_waiterAt (wsV RX2 169 RX2 yX2_countAheadAtAddress wsX2_countAheadAtAddress) := goodIn_app (goodIn_of _ (by decide +kernel)) ggX2_waiterAt_X2_countAheadAtAddress
theorem dX2_waiterAt_0 : decode cX2_waiterAt 0 = .ok (.iload_n 1, 1) := by decide +kernel
theorem dX2_waiterAt_1 : decode cX2_waiterAt 1 = .ok (.invokestatic 39, 3) := by decide +kernel
theorem dX2_waiterAt_4 : decode cX2_waiterAt 4 = .ok (.aload_n 0, 1) := by decide +kernel
theorem dX2_waiterAt_5 : decode cX2_waiterAt 5 = .ok (.getfield 15, 3) := by decide +kernel
theorem dX2_waiterAt_8 : decode cX2_waiterAt 8 = .ok (.astore_n 3, 1) := by decide +kernel
theorem dX2_waiterAt_9 : decode cX2_waiterAt 9 = .ok (.aload_n 3, 1) := by decide +kernel
theorem dX2_waiterAt_10 : decode cX2_waiterAt 10 = .ok (.arraylength, 1) := by decide +kernel
theorem dX2_waiterAt_11 : decode cX2_waiterAt 11 = .ok (.istore 4, 2) := by decide +kernel
theorem dX2_waiterAt_13 : decode cX2_waiterAt 13 = .ok (.iconst 0, 1) := by decide +kernel
theorem dX2_waiterAt_14 : decode cX2_waiterAt 14 = .ok (.istore 5, 2) := by decide +kernel
theorem dX2_waiterAt_16 : decode cX2_waiterAt 16 = .ok (.iload 5, 2) := by decide +kernel
theorem dX2_waiterAt_18 : decode cX2_waiterAt 18 = .ok (.iload 4, 2) := by decide +kernel
theorem dX2_waiterAt_20 : decode cX2_waiterAt 20 = .ok (.if_icmp .ge 40, 3) := by decide +kernel
theorem dX2_waiterAt_23 : decode cX2_waiterAt 23 = .ok (.aload_n 3, 1) := by decide +kernel
theorem dX2_waiterAt_24 : decode cX2_waiterAt 24 = .ok (.iload 5, 2) := by decide +kernel
theorem dX2_waiterAt_26 : decode cX2_waiterAt 26 = .ok (.aaload, 1) := by decide +kernel
theorem dX2_waiterAt_27 : decode cX2_waiterAt 27 = .ok (.astore 6, 2) := by decide +kernel
theorem dX2_waiterAt_29 : decode cX2_waiterAt 29 = .ok (.aload 6, 2) := by decide +kernel
theorem dX2_waiterAt_31 : decode cX2_waiterAt 31 = .ok (.getfield 156, 3) := by decide +kernel
theorem dX2_waiterAt_34 : decode cX2_waiterAt 34 = .ok (.iload_n 1, 1) := by decide +kernel
theorem dX2_waiterAt_35 : decode cX2_waiterAt 35 = .ok (.if_icmp .ne 19, 3) := by decide +kernel
theorem dX2_waiterAt_38 : decode cX2_waiterAt 38 = .ok (.aload_n 0, 1) := by decide +kernel
theorem dX2_waiterAt_39 : decode cX2_waiterAt 39 = .ok (.aload 6, 2) := by decide +kernel
theorem dX2_waiterAt_41 : decode cX2_waiterAt 41 = .ok (.invokevirtual 169, 3) := by decide +kernel
theorem dX2_waiterAt_44 : decode cX2_waiterAt 44 = .ok (.iload_n 2, 1) := by decide +kernel
theorem dX2_waiterAt_45 : decode cX2_waiterAt 45 = .ok (.if_icmp .ne 9, 3) := by decide +kernel
theorem dX2_waiterAt_48 : decode cX2_waiterAt 48 = .ok (.aload 6, 2) := by decide +kernel
theorem dX2_waiterAt_50 : decode cX2_waiterAt 50 = .ok (.getfield 173, 3) := by decide +kernel
theorem dX2_waiterAt_53 : decode cX2_waiterAt 53 = .ok (.ireturn, 1) := by decide +kernel
theorem dX2_waiterAt_54 : decode cX2_waiterAt 54 = .ok (.iinc 5 1, 3) := by decide +kernel
theorem dX2_waiterAt_57 : decode cX2_waiterAt 57 = .ok (.goto (-41), 3) := by decide +kernel
theorem dX2_waiterAt_60 : decode cX2_waiterAt 60 = .ok (.new 105, 3) := by decide +kernel
theorem dX2_waiterAt_63 : decode cX2_waiterAt 63 = .ok (.dup, 1) := by decide +kernel
theorem dX2_waiterAt_64 : decode cX2_waiterAt 64 = .ok (.ldc 107, 2) := by decide +kernel
theorem dX2_waiterAt_66 : decode cX2_waiterAt 66 = .ok (.invokespecial 109, 3) := by decide +kernel
theorem dX2_waiterAt_69 : decode cX2_waiterAt 69 = .ok (.athrow, 1) := by decide +kernel
set_option maxRecDepth 20000 in
theorem ggX2_queueAt_X1_isQueued : GoodIn wsX2_queueAt wsX1_isQueued := goodIn_r _ [10, 11, 32, 33, 34, 35, 36, 37, 38, 39, 40, 41, 42] (by decide +kernel) (by decide +kernel)
set_option maxRecDepth 20000 in
theorem gX2_queueAt_X1_isQueued : GoodIn wsX2_queueAt (wsV RX2 126 RX1 yX1_isQueued wsX1_isQueued) := goodIn_app (goodIn_of _ (by decide +kernel)) ggX2_queueAt_X1_isQueued
set_option maxRecDepth 20000 in
theorem ggX2_queueAt_X2_bucketOf : GoodIn wsX2_queueAt wsX2_bucketOf := goodIn_r _ [15] (by decide +kernel) (by decide +kernel)
set_option maxRecDepth 20000 in
theorem gX2_queueAt_X2_bucketOf : GoodIn wsX2_queueAt (va_wsS RX2 178 yX2_bucketOf wsX2_bucketOf) := goodIn_app (goodIn_of _ (by decide +kernel)) ggX2_queueAt_X2_bucketOf
set_option maxRecDepth 20000 in
theorem ggX2_queueAt_X2_countAheadInBucket : GoodIn wsX2_queueAt wsX2_countAheadInBucket := goodIn_r _ [19, 3, 4, 6, 7, 8, 9, 10, 11, 12, 13, 14, 15, 20, 21, 22, 23, 24, 25, 26, 27, 28, 29, 30, 31, 32, 33, 34, 35, 36, 37, 38, 39, 40, 41, 42] (by decide +kernel) (by decide +kernel)
set_option maxRecDepth 20000 in
theorem gX2_queueAt_X2_countAheadInBucket : GoodIn wsX2_queueAt (wsV RX2 181 RX2 yX2_countAheadInBucket wsX2_countAheadInBucket) := goodIn_app (goodIn_of _ (by decide +kernel)) ggX2_queueAt_X2_countAheadInBucket
theorem dX2_queueAt_0 : decode cX2_queueAt 0 = .ok (.iload_n 1, 1) := by decide +kernel
theorem dX2_queueAt_1 : decode cX2_queueAt 1 = .ok (.ifCond .lt 12, 3) := by decide +kernel
theorem dX2_queueAt_4 : decode cX2_queueAt 4 = .ok (.iload_n 1, 1) := by decide +kernel
theorem dX2_queueAt_5 : decode cX2_queueAt 5 = .ok (.iconst 4, 1) := by decide +kernel
theorem dX2_queueAt_6 : decode cX2_queueAt 6 = .ok (.if_icmp .ge 7, 3) := by decide +kernel
theorem dX2_queueAt_9 : decode cX2_queueAt 9 = .ok (.iload_n 2, 1) := by decide +kernel
theorem dX2_queueAt_10 : decode cX2_queueAt 10 = .ok (.ifCond .ge 13, 3) := by decide +kernel
theorem dX2_queueAt_13 : decode cX2_queueAt 13 = .ok (.new 105, 3) := by decide +kernel
theorem dX2_queueAt_16 : decode cX2_queueAt 16 = .ok (.dup, 1) := by decide +kernel
theorem dX2_queueAt_17 : decode cX2_queueAt 17 = .ok (.ldc 176, 2) := by decide +kernel
theorem dX2_queueAt_19 : decode cX2_queueAt 19 = .ok (.invokespecial 109, 3) := by decide +kernel
theorem dX2_queueAt_22 : decode cX2_queueAt 22 = .ok (.athrow, 1) := by decide +kernel
theorem dX2_queueAt_23 : decode cX2_queueAt 23 = .ok (.aload_n 0, 1) := by decide +kernel
theorem dX2_queueAt_24 : decode cX2_queueAt 24 = .ok (.getfield 15, 3) := by decide +kernel
theorem dX2_queueAt_27 : decode cX2_queueAt 27 = .ok (.astore_n 3, 1) := by decide +kernel
theorem dX2_queueAt_28 : decode cX2_queueAt 28 = .ok (.aload_n 3, 1) := by decide +kernel
theorem dX2_queueAt_29 : decode cX2_queueAt 29 = .ok (.arraylength, 1) := by decide +kernel
theorem dX2_queueAt_30 : decode cX2_queueAt 30 = .ok (.istore 4, 2) := by decide +kernel
theorem dX2_queueAt_32 : decode cX2_queueAt 32 = .ok (.iconst 0, 1) := by decide +kernel
theorem dX2_queueAt_33 : decode cX2_queueAt 33 = .ok (.istore 5, 2) := by decide +kernel
theorem dX2_queueAt_35 : decode cX2_queueAt 35 = .ok (.iload 5, 2) := by decide +kernel
theorem dX2_queueAt_37 : decode cX2_queueAt 37 = .ok (.iload 4, 2) := by decide +kernel
theorem dX2_queueAt_39 : decode cX2_queueAt 39 = .ok (.if_icmp .ge 51, 3) := by decide +kernel
theorem dX2_queueAt_42 : decode cX2_queueAt 42 = .ok (.aload_n 3, 1) := by decide +kernel
theorem dX2_queueAt_43 : decode cX2_queueAt 43 = .ok (.iload 5, 2) := by decide +kernel
theorem dX2_queueAt_45 : decode cX2_queueAt 45 = .ok (.aaload, 1) := by decide +kernel
theorem dX2_queueAt_46 : decode cX2_queueAt 46 = .ok (.astore 6, 2) := by decide +kernel
theorem dX2_queueAt_48 : decode cX2_queueAt 48 = .ok (.aload 6, 2) := by decide +kernel
theorem dX2_queueAt_50 : decode cX2_queueAt 50 = .ok (.invokevirtual 126, 3) := by decide +kernel
theorem dX2_queueAt_53 : decode cX2_queueAt 53 = .ok (.ifCond .eq 31, 3) := by decide +kernel
theorem dX2_queueAt_56 : decode cX2_queueAt 56 = .ok (.aload 6, 2) := by decide +kernel
theorem dX2_queueAt_58 : decode cX2_queueAt 58 = .ok (.getfield 156, 3) := by decide +kernel
theorem dX2_queueAt_61 : decode cX2_queueAt 61 = .ok (.invokestatic 178, 3) := by decide +kernel
theorem dX2_queueAt_64 : decode cX2_queueAt 64 = .ok (.iload_n 1, 1) := by decide +kernel
theorem dX2_queueAt_65 : decode cX2_queueAt 65 = .ok (.if_icmp .ne 19, 3) := by decide +kernel
theorem dX2_queueAt_68 : decode cX2_queueAt 68 = .ok (.aload_n 0, 1) := by decide +kernel
theorem dX2_queueAt_69 : decode cX2_queueAt 69 = .ok (.aload 6, 2) := by decide +kernel
theorem dX2_queueAt_71 : decode cX2_queueAt 71 = .ok (.invokevirtual 181, 3) := by decide +kernel
theorem dX2_queueAt_74 : decode cX2_queueAt 74 = .ok (.iload_n 2, 1) := by decide +kernel
theorem dX2_queueAt_75 : decode cX2_queueAt 75 = .ok (.if_icmp .ne 9, 3) := by decide +kernel
theorem dX2_queueAt_78 : decode cX2_queueAt 78 = .ok (.aload 6, 2) := by decide +kernel
theorem dX2_queueAt_80 : decode cX2_queueAt 80 = .ok (.getfield 173, 3) := by decide +kernel
theorem dX2_queueAt_83 : decode cX2_queueAt 83 = .ok (.ireturn, 1) := by decide +kernel
theorem dX2_queueAt_84 : decode cX2_queueAt 84 = .ok (.iinc 5 1, 3) := by decide +kernel
theorem dX2_queueAt_87 : decode cX2_queueAt 87 = .ok (.goto (-52), 3) := by decide +kernel
theorem dX2_queueAt_90 : decode cX2_queueAt 90 = .ok (.iconst (-1), 1) := by decide +kernel
theorem dX2_queueAt_91 : decode cX2_queueAt 91 = .ok (.ireturn, 1) := by decide +kernel
theorem dX2_taskOf_0 : decode cX2_taskOf 0 = .ok (.iload_n 1, 1) := by decide +kernel
theorem dX2_taskOf_1 : decode cX2_taskOf 1 = .ok (.ifCond .lt 9, 3) := by decide +kernel
theorem dX2_taskOf_4 : decode cX2_taskOf 4 = .ok (.iload_n 1, 1) := by decide +kernel
theorem dX2_taskOf_5 : decode cX2_taskOf 5 = .ok (.bipush 8, 2) := by decide +kernel
theorem dX2_taskOf_7 : decode cX2_taskOf 7 = .ok (.if_icmp .lt 13, 3) := by decide +kernel
theorem dX2_taskOf_10 : decode cX2_taskOf 10 = .ok (.new 105, 3) := by decide +kernel
theorem dX2_taskOf_13 : decode cX2_taskOf 13 = .ok (.dup, 1) := by decide +kernel
theorem dX2_taskOf_14 : decode cX2_taskOf 14 = .ok (.ldc 184, 2) := by decide +kernel
theorem dX2_taskOf_16 : decode cX2_taskOf 16 = .ok (.invokespecial 109, 3) := by decide +kernel
theorem dX2_taskOf_19 : decode cX2_taskOf 19 = .ok (.athrow, 1) := by decide +kernel
theorem dX2_taskOf_20 : decode cX2_taskOf 20 = .ok (.aload_n 0, 1) := by decide +kernel
theorem dX2_taskOf_21 : decode cX2_taskOf 21 = .ok (.getfield 15, 3) := by decide +kernel
theorem dX2_taskOf_24 : decode cX2_taskOf 24 = .ok (.iload_n 1, 1) := by decide +kernel
theorem dX2_taskOf_25 : decode cX2_taskOf 25 = .ok (.aaload, 1) := by decide +kernel
theorem dX2_taskOf_26 : decode cX2_taskOf 26 = .ok (.areturn, 1) := by decide +kernel
theorem dX2_isAddress_0 : decode cX2_isAddress 0 = .ok (.iload_n 0, 1) := by decide +kernel
theorem dX2_isAddress_1 : decode cX2_isAddress 1 = .ok (.ifCond .lt 13, 3) := by decide +kernel
theorem dX2_isAddress_4 : decode cX2_isAddress 4 = .ok (.iload_n 0, 1) := by decide +kernel
theorem dX2_isAddress_5 : decode cX2_isAddress 5 = .ok (.bipush 16, 2) := by decide +kernel
theorem dX2_isAddress_7 : decode cX2_isAddress 7 = .ok (.if_icmp .ge 7, 3) := by decide +kernel
theorem dX2_isAddress_10 : decode cX2_isAddress 10 = .ok (.iconst 1, 1) := by decide +kernel
theorem dX2_isAddress_11 : decode cX2_isAddress 11 = .ok (.goto 4, 3) := by decide +kernel
theorem dX2_isAddress_14 : decode cX2_isAddress 14 = .ok (.iconst 0, 1) := by decide +kernel
theorem dX2_isAddress_15 : decode cX2_isAddress 15 = .ok (.ireturn, 1) := by decide +kernel
set_option maxRecDepth 20000 in
theorem ggX2_requireAddress_X2_isAddress : GoodIn wsX2_requireAddress wsX2_isAddress := goodIn_r _ [6] (by decide +kernel) (by decide +kernel)
set_option maxRecDepth 20000 in
theorem gX2_requireAddress_X2_isAddress : GoodIn wsX2_requireAddress (va_wsS RX2 186 yX2_isAddress wsX2_isAddress) := goodIn_app (goodIn_of _ (by decide +kernel)) ggX2_requireAddress_X2_isAddress
theorem dX2_requireAddress_0 : decode cX2_requireAddress 0 = .ok (.iload_n 0, 1) := by decide +kernel
theorem dX2_requireAddress_1 : decode cX2_requireAddress 1 = .ok (.invokestatic 186, 3) := by decide +kernel
theorem dX2_requireAddress_4 : decode cX2_requireAddress 4 = .ok (.ifCond .ne 13, 3) := by decide +kernel
theorem dX2_requireAddress_7 : decode cX2_requireAddress 7 = .ok (.new 105, 3) := by decide +kernel
theorem dX2_requireAddress_10 : decode cX2_requireAddress 10 = .ok (.dup, 1) := by decide +kernel
theorem dX2_requireAddress_11 : decode cX2_requireAddress 11 = .ok (.ldc 190, 2) := by decide +kernel
theorem dX2_requireAddress_13 : decode cX2_requireAddress 13 = .ok (.invokespecial 109, 3) := by decide +kernel
theorem dX2_requireAddress_16 : decode cX2_requireAddress 16 = .ok (.athrow, 1) := by decide +kernel
theorem dX2_requireAddress_17 : decode cX2_requireAddress 17 = .ok (.return_, 1) := by decide +kernel
theorem dX2_requireBetween_0 : decode cX2_requireBetween 0 = .ok (.iload_n 0, 1) := by decide +kernel
theorem dX2_requireBetween_1 : decode cX2_requireBetween 1 = .ok (.iload_n 1, 1) := by decide +kernel
theorem dX2_requireBetween_2 : decode cX2_requireBetween 2 = .ok (.if_icmp .lt 8, 3) := by decide +kernel
theorem dX2_requireBetween_5 : decode cX2_requireBetween 5 = .ok (.iload_n 0, 1) := by decide +kernel
theorem dX2_requireBetween_6 : decode cX2_requireBetween 6 = .ok (.iload_n 2, 1) := by decide +kernel
theorem dX2_requireBetween_7 : decode cX2_requireBetween 7 = .ok (.if_icmp .le 13, 3) := by decide +kernel
theorem dX2_requireBetween_10 : decode cX2_requireBetween 10 = .ok (.new 58, 3) := by decide +kernel
theorem dX2_requireBetween_13 : decode cX2_requireBetween 13 = .ok (.dup, 1) := by decide +kernel
theorem dX2_requireBetween_14 : decode cX2_requireBetween 14 = .ok (.ldc 192, 2) := by decide +kernel
theorem dX2_requireBetween_16 : decode cX2_requireBetween 16 = .ok (.invokespecial 62, 3) := by decide +kernel
theorem dX2_requireBetween_19 : decode cX2_requireBetween 19 = .ok (.athrow, 1) := by decide +kernel
theorem dX2_requireBetween_20 : decode cX2_requireBetween 20 = .ok (.return_, 1) := by decide +kernel
theorem dX2_requireRunning_0 : decode cX2_requireRunning 0 = .ok (.aload_n 0, 1) := by decide +kernel
theorem dX2_requireRunning_1 : decode cX2_requireRunning 1 = .ok (.getfield 76, 3) := by decide +kernel
theorem dX2_requireRunning_4 : decode cX2_requireRunning 4 = .ok (.ifCond .eq 13, 3) := by decide +kernel
theorem dX2_requireRunning_7 : decode cX2_requireRunning 7 = .ok (.new 84, 3) := by decide +kernel
theorem dX2_requireRunning_10 : decode cX2_requireRunning 10 = .ok (.dup, 1) := by decide +kernel
theorem dX2_requireRunning_11 : decode cX2_requireRunning 11 = .ok (.ldc 194, 2) := by decide +kernel
theorem dX2_requireRunning_13 : decode cX2_requireRunning 13 = .ok (.invokespecial 88, 3) := by decide +kernel
theorem dX2_requireRunning_16 : decode cX2_requireRunning 16 = .ok (.athrow, 1) := by decide +kernel
theorem dX2_requireRunning_17 : decode cX2_requireRunning 17 = .ok (.return_, 1) := by decide +kernel
theorem dX2_requireAlive_0 : decode cX2_requireAlive 0 = .ok (.aload_n 0, 1) := by decide +kernel
theorem dX2_requireAlive_1 : decode cX2_requireAlive 1 = .ok (.getfield 76, 3) := by decide +kernel
theorem dX2_requireAlive_4 : decode cX2_requireAlive 4 = .ok (.iconst 3, 1) := by decide +kernel
theorem dX2_requireAlive_5 : decode cX2_requireAlive 5 = .ok (.if_icmp .ne 13, 3) := by decide +kernel
theorem dX2_requireAlive_8 : decode cX2_requireAlive 8 = .ok (.new 84, 3) := by decide +kernel
theorem dX2_requireAlive_11 : decode cX2_requireAlive 11 = .ok (.dup, 1) := by decide +kernel
theorem dX2_requireAlive_12 : decode cX2_requireAlive 12 = .ok (.ldc 196, 2) := by decide +kernel
theorem dX2_requireAlive_14 : decode cX2_requireAlive 14 = .ok (.invokespecial 88, 3) := by decide +kernel
theorem dX2_requireAlive_17 : decode cX2_requireAlive 17 = .ok (.athrow, 1) := by decide +kernel
theorem dX2_requireAlive_18 : decode cX2_requireAlive 18 = .ok (.return_, 1) := by decide +kernel
theorem dX2_bucketOf_0 : decode cX2_bucketOf 0 = .ok (.iload_n 0, 1) := by decide +kernel
theorem dX2_bucketOf_1 : decode cX2_bucketOf 1 = .ok (.iload_n 0, 1) := by decide +kernel
theorem dX2_bucketOf_2 : decode cX2_bucketOf 2 = .ok (.iconst 4, 1) := by decide +kernel
theorem dX2_bucketOf_3 : decode cX2_bucketOf 3 = .ok (.idiv, 1) := by decide +kernel
theorem dX2_bucketOf_4 : decode cX2_bucketOf 4 = .ok (.iadd, 1) := by decide +kernel
theorem dX2_bucketOf_5 : decode cX2_bucketOf 5 = .ok (.iconst 4, 1) := by decide +kernel
theorem dX2_bucketOf_6 : decode cX2_bucketOf 6 = .ok (.irem, 1) := by decide +kernel
theorem dX2_bucketOf_7 : decode cX2_bucketOf 7 = .ok (.ireturn, 1) := by decide +kernel
theorem dX2_joinQueue_0 : decode cX2_joinQueue 0 = .ok (.aload_n 1, 1) := by decide +kernel
theorem dX2_joinQueue_1 : decode cX2_joinQueue 1 = .ok (.iload_n 2, 1) := by decide +kernel
theorem dX2_joinQueue_2 : decode cX2_joinQueue 2 = .ok (.putfield 156, 3) := by decide +kernel
theorem dX2_joinQueue_5 : decode cX2_joinQueue 5 = .ok (.aload_n 0, 1) := by decide +kernel
theorem dX2_joinQueue_6 : decode cX2_joinQueue 6 = .ok (.dup, 1) := by decide +kernel
theorem dX2_joinQueue_7 : decode cX2_joinQueue 7 = .ok (.getfield 29, 3) := by decide +kernel
theorem dX2_joinQueue_10 : decode cX2_joinQueue 10 = .ok (.iconst 1, 1) := by decide +kernel
theorem dX2_joinQueue_11 : decode cX2_joinQueue 11 = .ok (.iadd, 1) := by decide +kernel
theorem dX2_joinQueue_12 : decode cX2_joinQueue 12 = .ok (.putfield 29, 3) := by decide +kernel
theorem dX2_joinQueue_15 : decode cX2_joinQueue 15 = .ok (.aload_n 1, 1) := by decide +kernel
theorem dX2_joinQueue_16 : decode cX2_joinQueue 16 = .ok (.aload_n 0, 1) := by decide +kernel
theorem dX2_joinQueue_17 : decode cX2_joinQueue 17 = .ok (.getfield 29, 3) := by decide +kernel
theorem dX2_joinQueue_20 : decode cX2_joinQueue 20 = .ok (.putfield 198, 3) := by decide +kernel
theorem dX2_joinQueue_23 : decode cX2_joinQueue 23 = .ok (.return_, 1) := by decide +kernel
set_option maxRecDepth 20000 in
theorem ggX2_countAheadAtAddress_X1_isAheadOf : GoodIn wsX2_countAheadAtAddress wsX1_isAheadOf := goodIn_r _ [7, 8, 9, 16, 17, 18, 19, 20, 21, 22, 23, 24, 25, 26] (by decide +kernel) (by decide +kernel)
set_option maxRecDepth 20000 in
theorem gX2_countAheadAtAddress_X1_isAheadOf : GoodIn wsX2_countAheadAtAddress (wsV RX2 201 RX1 yX1_isAheadOf wsX1_isAheadOf) := goodIn_app (goodIn_of _ (by decide +kernel)) ggX2_countAheadAtAddress_X1_isAheadOf
theorem dX2_countAheadAtAddress_0 : decode cX2_countAheadAtAddress 0 = .ok (.iconst 0, 1) := by decide +kernel
theorem dX2_countAheadAtAddress_1 : decode cX2_countAheadAtAddress 1 = .ok (.istore_n 2, 1) := by decide +kernel
theorem dX2_countAheadAtAddress_2 : decode cX2_countAheadAtAddress 2 = .ok (.aload_n 0, 1) := by decide +kernel
theorem dX2_countAheadAtAddress_3 : decode cX2_countAheadAtAddress 3 = .ok (.getfield 15, 3) := by decide +kernel
theorem dX2_countAheadAtAddress_6 : decode cX2_countAheadAtAddress 6 = .ok (.astore_n 3, 1) := by decide +kernel
theorem dX2_countAheadAtAddress_7 : decode cX2_countAheadAtAddress 7 = .ok (.aload_n 3, 1) := by decide +kernel
theorem dX2_countAheadAtAddress_8 : decode cX2_countAheadAtAddress 8 = .ok (.arraylength, 1) := by decide +kernel
theorem dX2_countAheadAtAddress_9 : decode cX2_countAheadAtAddress 9 = .ok (.istore 4, 2) := by decide +kernel
theorem dX2_countAheadAtAddress_11 : decode cX2_countAheadAtAddress 11 = .ok (.iconst 0, 1) := by decide +kernel
theorem dX2_countAheadAtAddress_12 : decode cX2_countAheadAtAddress 12 = .ok (.istore 5, 2) := by decide +kernel
theorem dX2_countAheadAtAddress_14 : decode cX2_countAheadAtAddress 14 = .ok (.iload 5, 2) := by decide +kernel
theorem dX2_countAheadAtAddress_16 : decode cX2_countAheadAtAddress 16 = .ok (.iload 4, 2) := by decide +kernel
theorem dX2_countAheadAtAddress_18 : decode cX2_countAheadAtAddress 18 = .ok (.if_icmp .ge 39, 3) := by decide +kernel
theorem dX2_countAheadAtAddress_21 : decode cX2_countAheadAtAddress 21 = .ok (.aload_n 3, 1) := by decide +kernel
theorem dX2_countAheadAtAddress_22 : decode cX2_countAheadAtAddress 22 = .ok (.iload 5, 2) := by decide +kernel
theorem dX2_countAheadAtAddress_24 : decode cX2_countAheadAtAddress 24 = .ok (.aaload, 1) := by decide +kernel
theorem dX2_countAheadAtAddress_25 : decode cX2_countAheadAtAddress 25 = .ok (.astore 6, 2) := by decide +kernel
theorem dX2_countAheadAtAddress_27 : decode cX2_countAheadAtAddress 27 = .ok (.aload 6, 2) := by decide +kernel
theorem dX2_countAheadAtAddress_29 : decode cX2_countAheadAtAddress 29 = .ok (.getfield 156, 3) := by decide +kernel
theorem dX2_countAheadAtAddress_32 : decode cX2_countAheadAtAddress 32 = .ok (.aload_n 1, 1) := by decide +kernel
theorem dX2_countAheadAtAddress_33 : decode cX2_countAheadAtAddress 33 = .ok (.getfield 156, 3) := by decide +kernel
theorem dX2_countAheadAtAddress_36 : decode cX2_countAheadAtAddress 36 = .ok (.if_icmp .ne 15, 3) := by decide +kernel
theorem dX2_countAheadAtAddress_39 : decode cX2_countAheadAtAddress 39 = .ok (.aload 6, 2) := by decide +kernel
theorem dX2_countAheadAtAddress_41 : decode cX2_countAheadAtAddress 41 = .ok (.aload_n 1, 1) := by decide +kernel
theorem dX2_countAheadAtAddress_42 : decode cX2_countAheadAtAddress 42 = .ok (.invokevirtual 201, 3) := by decide +kernel
theorem dX2_countAheadAtAddress_45 : decode cX2_countAheadAtAddress 45 = .ok (.ifCond .eq 6, 3) := by decide +kernel
theorem dX2_countAheadAtAddress_48 : decode cX2_countAheadAtAddress 48 = .ok (.iinc 2 1, 3) := by decide +kernel
theorem dX2_countAheadAtAddress_51 : decode cX2_countAheadAtAddress 51 = .ok (.iinc 5 1, 3) := by decide +kernel
theorem dX2_countAheadAtAddress_54 : decode cX2_countAheadAtAddress 54 = .ok (.goto (-40), 3) := by decide +kernel
theorem dX2_countAheadAtAddress_57 : decode cX2_countAheadAtAddress 57 = .ok (.iload_n 2, 1) := by decide +kernel
theorem dX2_countAheadAtAddress_58 : decode cX2_countAheadAtAddress 58 = .ok (.ireturn, 1) := by decide +kernel
set_option maxRecDepth 20000 in
theorem ggX2_countAheadInBucket_X1_isQueued : GoodIn wsX2_countAheadInBucket wsX1_isQueued := goodIn_r _ [7, 8, 25, 26, 27, 28, 29, 30, 31, 32, 33, 34, 35] (by decide +kernel) (by decide +kernel)
set_option maxRecDepth 20000 in
theorem gX2_countAheadInBucket_X1_isQueued : GoodIn wsX2_countAheadInBucket (wsV RX2 126 RX1 yX1_isQueued wsX1_isQueued) := goodIn_app (goodIn_of _ (by decide +kernel)) ggX2_countAheadInBucket_X1_isQueued
set_option maxRecDepth 20000 in
theorem ggX2_countAheadInBucket_X2_bucketOf : GoodIn wsX2_countAheadInBucket wsX2_bucketOf := goodIn_r _ [12] (by decide +kernel) (by decide +kernel)
set_option maxRecDepth 20000 in
theorem gX2_countAheadInBucket_X2_bucketOf : GoodIn wsX2_countAheadInBucket (va_wsS RX2 178 yX2_bucketOf wsX2_bucketOf) := goodIn_app (goodIn_of _ (by decide +kernel)) ggX2_countAheadInBucket_X2_bucketOf
set_option maxRecDepth 20000 in
theorem ggX2_countAheadInBucket_X1_isAheadOf : GoodIn wsX2_countAheadInBucket wsX1_isAheadOf := goodIn_r _ [16, 17, 18, 25, 26, 27, 28, 29, 30, 31, 32, 33, 34, 35] (by decide +kernel) (by decide +kernel)
set_option maxRecDepth 20000 in
theorem gX2_countAheadInBucket_X1_isAheadOf : GoodIn wsX2_countAheadInBucket (wsV RX2 201 RX1 yX1_isAheadOf wsX1_isAheadOf) := goodIn_app (goodIn_of _ (by decide +kernel)) ggX2_countAheadInBucket_X1_isAheadOf
theorem dX2_countAheadInBucket_0 : decode cX2_countAheadInBucket 0 = .ok (.iconst 0, 1) := by decide +kernel
theorem dX2_countAheadInBucket_1 : decode cX2_countAheadInBucket 1 = .ok (.istore_n 2, 1) := by decide +kernel
theorem dX2_countAheadInBucket_2 : decode cX2_countAheadInBucket 2 = .ok (.aload_n 0, 1) := by decide +kernel
theorem dX2_countAheadInBucket_3 : decode cX2_countAheadInBucket 3 = .ok (.getfield 15, 3) := by decide +kernel
theorem dX2_countAheadInBucket_6 : decode cX2_countAheadInBucket 6 = .ok (.astore_n 3, 1) := by decide +kernel
theorem dX2_countAheadInBucket_7 : decode cX2_countAheadInBucket 7 = .ok (.aload_n 3, 1) := by decide +kernel
theorem dX2_countAheadInBucket_8 : decode cX2_countAheadInBucket 8 = .ok (.arraylength, 1) := by decide +kernel
theorem dX2_countAheadInBucket_9 : decode cX2_countAheadInBucket 9 = .ok (.istore 4, 2) := by decide +kernel
theorem dX2_countAheadInBucket_11 : decode cX2_countAheadInBucket 11 = .ok (.iconst 0, 1) := by decide +kernel
theorem dX2_countAheadInBucket_12 : decode cX2_countAheadInBucket 12 = .ok (.istore 5, 2) := by decide +kernel
theorem dX2_countAheadInBucket_14 : decode cX2_countAheadInBucket 14 = .ok (.iload 5, 2) := by decide +kernel
theorem dX2_countAheadInBucket_16 : decode cX2_countAheadInBucket 16 = .ok (.iload 4, 2) := by decide +kernel
theorem dX2_countAheadInBucket_18 : decode cX2_countAheadInBucket 18 = .ok (.if_icmp .ge 53, 3) := by decide +kernel
theorem dX2_countAheadInBucket_21 : decode cX2_countAheadInBucket 21 = .ok (.aload_n 3, 1) := by decide +kernel
theorem dX2_countAheadInBucket_22 : decode cX2_countAheadInBucket 22 = .ok (.iload 5, 2) := by decide +kernel
theorem dX2_countAheadInBucket_24 : decode cX2_countAheadInBucket 24 = .ok (.aaload, 1) := by decide +kernel
theorem dX2_countAheadInBucket_25 : decode cX2_countAheadInBucket 25 = .ok (.astore 6, 2) := by decide +kernel
theorem dX2_countAheadInBucket_27 : decode cX2_countAheadInBucket 27 = .ok (.aload 6, 2) := by decide +kernel
theorem dX2_countAheadInBucket_29 : decode cX2_countAheadInBucket 29 = .ok (.invokevirtual 126, 3) := by decide +kernel
theorem dX2_countAheadInBucket_32 : decode cX2_countAheadInBucket 32 = .ok (.ifCond .eq 33, 3) := by decide +kernel
theorem dX2_countAheadInBucket_35 : decode cX2_countAheadInBucket 35 = .ok (.aload 6, 2) := by decide +kernel
theorem dX2_countAheadInBucket_37 : decode cX2_countAheadInBucket 37 = .ok (.getfield 156, 3) := by decide +kernel
theorem dX2_countAheadInBucket_40 : decode cX2_countAheadInBucket 40 = .ok (.invokestatic 178, 3) := by decide +kernel
theorem dX2_countAheadInBucket_43 : decode cX2_countAheadInBucket 43 = .ok (.aload_n 1, 1) := by decide +kernel
theorem dX2_countAheadInBucket_44 : decode cX2_countAheadInBucket 44 = .ok (.getfield 156, 3) := by decide +kernel
theorem dX2_countAheadInBucket_47 : decode cX2_countAheadInBucket 47 = .ok (.invokestatic 178, 3) := by decide +kernel
theorem dX2_countAheadInBucket_50 : decode cX2_countAheadInBucket 50 = .ok (.if_icmp .ne 15, 3) := by decide +kernel
theorem dX2_countAheadInBucket_53 : decode cX2_countAheadInBucket 53 = .ok (.aload 6, 2) := by decide +kernel
theorem dX2_countAheadInBucket_55 : decode cX2_countAheadInBucket 55 = .ok (.aload_n 1, 1) := by decide +kernel
theorem dX2_countAheadInBucket_56 : decode cX2_countAheadInBucket 56 = .ok (.invokevirtual 201, 3) := by decide +kernel
theorem dX2_countAheadInBucket_59 : decode cX2_countAheadInBucket 59 = .ok (.ifCond .eq 6, 3) := by decide +kernel
theorem dX2_countAheadInBucket_62 : decode cX2_countAheadInBucket 62 = .ok (.iinc 2 1, 3) := by decide +kernel
theorem dX2_countAheadInBucket_65 : decode cX2_countAheadInBucket 65 = .ok (.iinc 5 1, 3) := by decide +kernel
theorem dX2_countAheadInBucket_68 : decode cX2_countAheadInBucket 68 = .ok (.goto (-54), 3) := by decide +kernel
theorem dX2_countAheadInBucket_71 : decode cX2_countAheadInBucket 71 = .ok (.iload_n 2, 1) := by decide +kernel
theorem dX2_countAheadInBucket_72 : decode cX2_countAheadInBucket 72 = .ok (.ireturn, 1) := by decide +kernel
set_option maxRecDepth 20000 in
theorem ggX2_firstAt_X1_isAheadOf : GoodIn wsX2_firstAt wsX1_isAheadOf := goodIn_r _ [9, 10, 11, 18, 19, 20, 21, 22, 23, 24, 25, 26, 27, 28] (by decide +kernel) (by decide +kernel)
set_option maxRecDepth 20000 in
theorem gX2_firstAt_X1_isAheadOf : GoodIn wsX2_firstAt (wsV RX2 201 RX1 yX1_isAheadOf wsX1_isAheadOf) := goodIn_app (goodIn_of _ (by decide +kernel)) ggX2_firstAt_X1_isAheadOf
theorem dX2_firstAt_0 : decode cX2_firstAt 0 = .ok (.aconst_null, 1) := by decide +kernel
theorem dX2_firstAt_1 : decode cX2_firstAt 1 = .ok (.astore 4, 2) := by decide +kernel
theorem dX2_firstAt_3 : decode cX2_firstAt 3 = .ok (.aload_n 0, 1) := by decide +kernel
theorem dX2_firstAt_4 : decode cX2_firstAt 4 = .ok (.getfield 15, 3) := by decide +kernel
theorem dX2_firstAt_7 : decode cX2_firstAt 7 = .ok (.astore 5, 2) := by decide +kernel
theorem dX2_firstAt_9 : decode cX2_firstAt 9 = .ok (.aload 5, 2) := by decide +kernel
theorem dX2_firstAt_11 : decode cX2_firstAt 11 = .ok (.arraylength, 1) := by decide +kernel
theorem dX2_firstAt_12 : decode cX2_firstAt 12 = .ok (.istore 6, 2) := by decide +kernel
theorem dX2_firstAt_14 : decode cX2_firstAt 14 = .ok (.iconst 0, 1) := by decide +kernel
theorem dX2_firstAt_15 : decode cX2_firstAt 15 = .ok (.istore 7, 2) := by decide +kernel
theorem dX2_firstAt_17 : decode cX2_firstAt 17 = .ok (.iload 7, 2) := by decide +kernel
theorem dX2_firstAt_19 : decode cX2_firstAt 19 = .ok (.iload 6, 2) := by decide +kernel
theorem dX2_firstAt_21 : decode cX2_firstAt 21 = .ok (.if_icmp .ge 75, 3) := by decide +kernel
theorem dX2_firstAt_24 : decode cX2_firstAt 24 = .ok (.aload 5, 2) := by decide +kernel
theorem dX2_firstAt_26 : decode cX2_firstAt 26 = .ok (.iload 7, 2) := by decide +kernel
theorem dX2_firstAt_28 : decode cX2_firstAt 28 = .ok (.aaload, 1) := by decide +kernel
theorem dX2_firstAt_29 : decode cX2_firstAt 29 = .ok (.astore 8, 2) := by decide +kernel
theorem dX2_firstAt_31 : decode cX2_firstAt 31 = .ok (.aload 8, 2) := by decide +kernel
theorem dX2_firstAt_33 : decode cX2_firstAt 33 = .ok (.getfield 156, 3) := by decide +kernel
theorem dX2_firstAt_36 : decode cX2_firstAt 36 = .ok (.iload_n 1, 1) := by decide +kernel
theorem dX2_firstAt_37 : decode cX2_firstAt 37 = .ok (.if_icmp .ne 26, 3) := by decide +kernel
theorem dX2_firstAt_40 : decode cX2_firstAt 40 = .ok (.aload 8, 2) := by decide +kernel
theorem dX2_firstAt_42 : decode cX2_firstAt 42 = .ok (.getfield 76, 3) := by decide +kernel
theorem dX2_firstAt_45 : decode cX2_firstAt 45 = .ok (.iload_n 2, 1) := by decide +kernel
theorem dX2_firstAt_46 : decode cX2_firstAt 46 = .ok (.if_icmp .ne 17, 3) := by decide +kernel
theorem dX2_firstAt_49 : decode cX2_firstAt 49 = .ok (.aload 8, 2) := by decide +kernel
theorem dX2_firstAt_51 : decode cX2_firstAt 51 = .ok (.getfield 205, 3) := by decide +kernel
theorem dX2_firstAt_54 : decode cX2_firstAt 54 = .ok (.iload_n 3, 1) := by decide +kernel
theorem dX2_firstAt_55 : decode cX2_firstAt 55 = .ok (.iand, 1) := by decide +kernel
theorem dX2_firstAt_56 : decode cX2_firstAt 56 = .ok (.ifCond .eq 7, 3) := by decide +kernel
theorem dX2_firstAt_59 : decode cX2_firstAt 59 = .ok (.iconst 1, 1) := by decide +kernel
theorem dX2_firstAt_60 : decode cX2_firstAt 60 = .ok (.goto 4, 3) := by decide +kernel
theorem dX2_firstAt_63 : decode cX2_firstAt 63 = .ok (.iconst 0, 1) := by decide +kernel
theorem dX2_firstAt_64 : decode cX2_firstAt 64 = .ok (.istore 9, 2) := by decide +kernel
theorem dX2_firstAt_66 : decode cX2_firstAt 66 = .ok (.iload 9, 2) := by decide +kernel
theorem dX2_firstAt_68 : decode cX2_firstAt 68 = .ok (.ifCond .eq 22, 3) := by decide +kernel
theorem dX2_firstAt_71 : decode cX2_firstAt 71 = .ok (.aload 4, 2) := by decide +kernel
theorem dX2_firstAt_73 : decode cX2_firstAt 73 = .ok (.ifnull 13, 3) := by decide +kernel
theorem dX2_firstAt_76 : decode cX2_firstAt 76 = .ok (.aload 8, 2) := by decide +kernel
theorem dX2_firstAt_78 : decode cX2_firstAt 78 = .ok (.aload 4, 2) := by decide +kernel
theorem dX2_firstAt_80 : decode cX2_firstAt 80 = .ok (.invokevirtual 201, 3) := by decide +kernel
theorem dX2_firstAt_83 : decode cX2_firstAt 83 = .ok (.ifCond .eq 7, 3) := by decide +kernel
theorem dX2_firstAt_86 : decode cX2_firstAt 86 = .ok (.aload 8, 2) := by decide +kernel
theorem dX2_firstAt_88 : decode cX2_firstAt 88 = .ok (.astore 4, 2) := by decide +kernel
theorem dX2_firstAt_90 : decode cX2_firstAt 90 = .ok (.iinc 7 1, 3) := by decide +kernel
theorem dX2_firstAt_93 : decode cX2_firstAt 93 = .ok (.goto (-76), 3) := by decide +kernel
theorem dX2_firstAt_96 : decode cX2_firstAt 96 = .ok (.aload 4, 2) := by decide +kernel
theorem dX2_firstAt_98 : decode cX2_firstAt 98 = .ok (.areturn, 1) := by decide +kernel
set_option maxRecDepth 20000 in
theorem ggX2_firstLockingAt_X2_firstAt : GoodIn wsX2_firstLockingAt wsX2_firstAt := goodIn_r _ [5, 6, 7, 8, 9, 10, 11, 12, 13, 14, 15, 16, 17, 18, 19, 20, 21, 22, 23, 24, 25, 26, 27, 28, 29, 30, 31, 32, 33] (by decide +kernel) (by decide +kernel)
set_option maxRecDepth 20000 in
theorem gX2_firstLockingAt_X2_firstAt : GoodIn wsX2_firstLockingAt (wsV RX2 208 RX2 yX2_firstAt wsX2_firstAt) := goodIn_app (goodIn_of _ (by decide +kernel)) ggX2_firstLockingAt_X2_firstAt
theorem dX2_firstLockingAt_0 : decode cX2_firstLockingAt 0 = .ok (.aload_n 0, 1) := by decide +kernel
theorem dX2_firstLockingAt_1 : decode cX2_firstLockingAt 1 = .ok (.iload_n 1, 1) := by decide +kernel
theorem dX2_firstLockingAt_2 : decode cX2_firstLockingAt 2 = .ok (.iconst 2, 1) := by decide +kernel
theorem dX2_firstLockingAt_3 : decode cX2_firstLockingAt 3 = .ok (.sipush 255, 3) := by decide +kernel
theorem dX2_firstLockingAt_6 : decode cX2_firstLockingAt 6 = .ok (.invokevirtual 208, 3) := by decide +kernel
theorem dX2_firstLockingAt_9 : decode cX2_firstLockingAt 9 = .ok (.areturn, 1) := by decide +kernel
set_option maxRecDepth 20000 in
theorem ggX2_beginWait_X2_joinQueue : GoodIn wsX2_beginWait wsX2_joinQueue := goodIn_r _ [11, 12, 13, 14, 15, 16, 17, 18, 19, 20, 21, 22, 23, 24, 25, 26, 27, 28, 29, 30, 31] (by decide +kernel) (by decide +kernel)
set_option maxRecDepth 20000 in
theorem gX2_beginWait_X2_joinQueue : GoodIn wsX2_beginWait (wsV RX2 159 RX2 yX2_joinQueue wsX2_joinQueue) := goodIn_app (goodIn_of _ (by decide +kernel)) ggX2_beginWait_X2_joinQueue
theorem dX2_beginWait_0 : decode cX2_beginWait 0 = .ok (.aload_n 1, 1) := by decide +kernel
theorem dX2_beginWait_1 : decode cX2_beginWait 1 = .ok (.iload_n 2, 1) := by decide +kernel
theorem dX2_beginWait_2 : decode cX2_beginWait 2 = .ok (.putfield 76, 3) := by decide +kernel
theorem dX2_beginWait_5 : decode cX2_beginWait 5 = .ok (.aload_n 1, 1) := by decide +kernel
theorem dX2_beginWait_6 : decode cX2_beginWait 6 = .ok (.iload 4, 2) := by decide +kernel
theorem dX2_beginWait_8 : decode cX2_beginWait 8 = .ok (.putfield 205, 3) := by decide +kernel
theorem dX2_beginWait_11 : decode cX2_beginWait 11 = .ok (.aload_n 1, 1) := by decide +kernel
theorem dX2_beginWait_12 : decode cX2_beginWait 12 = .ok (.iload 5, 2) := by decide +kernel
theorem dX2_beginWait_14 : decode cX2_beginWait 14 = .ok (.ifCond .ne 7, 3) := by decide +kernel
theorem dX2_beginWait_17 : decode cX2_beginWait 17 = .ok (.iconst (-1), 1) := by decide +kernel
theorem dX2_beginWait_18 : decode cX2_beginWait 18 = .ok (.goto 10, 3) := by decide +kernel
theorem dX2_beginWait_21 : decode cX2_beginWait 21 = .ok (.aload_n 0, 1) := by decide +kernel
theorem dX2_beginWait_22 : decode cX2_beginWait 22 = .ok (.getfield 19, 3) := by decide +kernel
theorem dX2_beginWait_25 : decode cX2_beginWait 25 = .ok (.iload 5, 2) := by decide +kernel
theorem dX2_beginWait_27 : decode cX2_beginWait 27 = .ok (.iadd, 1) := by decide +kernel
theorem dX2_beginWait_28 : decode cX2_beginWait 28 = .ok (.putfield 166, 3) := by decide +kernel
theorem dX2_beginWait_31 : decode cX2_beginWait 31 = .ok (.aload_n 0, 1) := by decide +kernel
theorem dX2_beginWait_32 : decode cX2_beginWait 32 = .ok (.dup, 1) := by decide +kernel
theorem dX2_beginWait_33 : decode cX2_beginWait 33 = .ok (.getfield 26, 3) := by decide +kernel
theorem dX2_beginWait_36 : decode cX2_beginWait 36 = .ok (.iconst 1, 1) := by decide +kernel
theorem dX2_beginWait_37 : decode cX2_beginWait 37 = .ok (.iadd, 1) := by decide +kernel
theorem dX2_beginWait_38 : decode cX2_beginWait 38 = .ok (.putfield 26, 3) := by decide +kernel
theorem dX2_beginWait_41 : decode cX2_beginWait 41 = .ok (.aload_n 1, 1) := by decide +kernel
theorem dX2_beginWait_42 : decode cX2_beginWait 42 = .ok (.aload_n 0, 1) := by decide +kernel
theorem dX2_beginWait_43 : decode cX2_beginWait 43 = .ok (.getfield 26, 3) := by decide +kernel
theorem dX2_beginWait_46 : decode cX2_beginWait 46 = .ok (.putfield 212, 3) := by decide +kernel
theorem dX2_beginWait_49 : decode cX2_beginWait 49 = .ok (.aload_n 0, 1) := by decide +kernel
theorem dX2_beginWait_50 : decode cX2_beginWait 50 = .ok (.aload_n 1, 1) := by decide +kernel
theorem dX2_beginWait_51 : decode cX2_beginWait 51 = .ok (.iload_n 3, 1) := by decide +kernel
theorem dX2_beginWait_52 : decode cX2_beginWait 52 = .ok (.invokevirtual 159, 3) := by decide +kernel
theorem dX2_beginWait_55 : decode cX2_beginWait 55 = .ok (.return_, 1) := by decide +kernel
set_option maxRecDepth 20000 in
theorem ggX2_endWait_X2_leaveQueue : GoodIn wsX2_endWait wsX2_leaveQueue := goodIn_r _ [8, 9, 10, 11, 12, 13, 14, 15, 7, 16, 17, 18, 19, 20, 21, 22, 23, 24, 25, 26, 27, 28, 29, 30, 31, 32, 33, 34, 35, 36, 37, 38, 39, 40, 41, 42, 43, 44, 45, 46, 47, 48, 49, 50] (by decide +kernel) (by decide +kernel)
set_option maxRecDepth 20000 in
theorem gX2_endWait_X2_leaveQueue : GoodIn wsX2_endWait (wsV RX2 139 RX2 yX2_leaveQueue wsX2_leaveQueue) := goodIn_app (goodIn_of _ (by decide +kernel)) ggX2_endWait_X2_leaveQueue
theorem dX2_endWait_0 : decode cX2_endWait 0 = .ok (.aload_n 0, 1) := by decide +kernel
theorem dX2_endWait_1 : decode cX2_endWait 1 = .ok (.aload_n 1, 1) := by decide +kernel
theorem dX2_endWait_2 : decode cX2_endWait 2 = .ok (.invokevirtual 139, 3) := by decide +kernel
theorem dX2_endWait_5 : decode cX2_endWait 5 = .ok (.aload_n 1, 1) := by decide +kernel
theorem dX2_endWait_6 : decode cX2_endWait 6 = .ok (.iload_n 2, 1) := by decide +kernel
theorem dX2_endWait_7 : decode cX2_endWait 7 = .ok (.putfield 150, 3) := by decide +kernel
theorem dX2_endWait_10 : decode cX2_endWait 10 = .ok (.aload_n 0, 1) := by decide +kernel
theorem dX2_endWait_11 : decode cX2_endWait 11 = .ok (.dup, 1) := by decide +kernel
theorem dX2_endWait_12 : decode cX2_endWait 12 = .ok (.getfield 23, 3) := by decide +kernel
theorem dX2_endWait_15 : decode cX2_endWait 15 = .ok (.iconst 1, 1) := by decide +kernel
theorem dX2_endWait_16 : decode cX2_endWait 16 = .ok (.iadd, 1) := by decide +kernel
theorem dX2_endWait_17 : decode cX2_endWait 17 = .ok (.putfield 23, 3) := by decide +kernel
theorem dX2_endWait_20 : decode cX2_endWait 20 = .ok (.aload_n 1, 1) := by decide +kernel
theorem dX2_endWait_21 : decode cX2_endWait 21 = .ok (.aload_n 0, 1) := by decide +kernel
theorem dX2_endWait_22 : decode cX2_endWait 22 = .ok (.getfield 23, 3) := by decide +kernel
theorem dX2_endWait_25 : decode cX2_endWait 25 = .ok (.putfield 153, 3) := by decide +kernel
theorem dX2_endWait_28 : decode cX2_endWait 28 = .ok (.return_, 1) := by decide +kernel
set_option maxRecDepth 20000 in
theorem ggX2_leaveQueue_X2_isAddress : GoodIn wsX2_leaveQueue wsX2_isAddress := goodIn_r _ [9] (by decide +kernel) (by decide +kernel)
set_option maxRecDepth 20000 in
theorem gX2_leaveQueue_X2_isAddress : GoodIn wsX2_leaveQueue (va_wsS RX2 186 yX2_isAddress wsX2_isAddress) := goodIn_app (goodIn_of _ (by decide +kernel)) ggX2_leaveQueue_X2_isAddress
set_option maxRecDepth 20000 in
theorem ggX2_leaveQueue_X2_firstLockingAt : GoodIn wsX2_leaveQueue wsX2_firstLockingAt := goodIn_r _ [13, 14, 15, 16, 8, 17, 18, 1, 2, 19, 20, 21, 22, 23, 24, 25, 26, 38, 39, 40, 41, 42, 43, 27, 28, 29, 30, 31, 32, 33, 34, 35, 36, 37] (by decide +kernel) (by decide +kernel)
set_option maxRecDepth 20000 in
theorem gX2_leaveQueue_X2_firstLockingAt : GoodIn wsX2_leaveQueue (wsV RX2 215 RX2 yX2_firstLockingAt wsX2_firstLockingAt) := goodIn_app (goodIn_of _ (by decide +kernel)) ggX2_leaveQueue_X2_firstLockingAt
theorem dX2_leaveQueue_0 : decode cX2_leaveQueue 0 = .ok (.aload_n 1, 1) := by decide +kernel
theorem dX2_leaveQueue_1 : decode cX2_leaveQueue 1 = .ok (.getfield 156, 3) := by decide +kernel
theorem dX2_leaveQueue_4 : decode cX2_leaveQueue 4 = .ok (.istore_n 2, 1) := by decide +kernel
theorem dX2_leaveQueue_5 : decode cX2_leaveQueue 5 = .ok (.aload_n 1, 1) := by decide +kernel
theorem dX2_leaveQueue_6 : decode cX2_leaveQueue 6 = .ok (.getfield 76, 3) := by decide +kernel
theorem dX2_leaveQueue_9 : decode cX2_leaveQueue 9 = .ok (.iconst 2, 1) := by decide +kernel
theorem dX2_leaveQueue_10 : decode cX2_leaveQueue 10 = .ok (.if_icmp .ne 7, 3) := by decide +kernel
theorem dX2_leaveQueue_13 : decode cX2_leaveQueue 13 = .ok (.iconst 1, 1) := by decide +kernel
theorem dX2_leaveQueue_14 : decode cX2_leaveQueue 14 = .ok (.goto 4, 3) := by decide +kernel
theorem dX2_leaveQueue_17 : decode cX2_leaveQueue 17 = .ok (.iconst 0, 1) := by decide +kernel
theorem dX2_leaveQueue_18 : decode cX2_leaveQueue 18 = .ok (.istore_n 3, 1) := by decide +kernel
theorem dX2_leaveQueue_19 : decode cX2_leaveQueue 19 = .ok (.aload_n 1, 1) := by decide +kernel
theorem dX2_leaveQueue_20 : decode cX2_leaveQueue 20 = .ok (.iconst 0, 1) := by decide +kernel
theorem dX2_leaveQueue_21 : decode cX2_leaveQueue 21 = .ok (.putfield 76, 3) := by decide +kernel
theorem dX2_leaveQueue_24 : decode cX2_leaveQueue 24 = .ok (.aload_n 1, 1) := by decide +kernel
theorem dX2_leaveQueue_25 : decode cX2_leaveQueue 25 = .ok (.iconst (-1), 1) := by decide +kernel
theorem dX2_leaveQueue_26 : decode cX2_leaveQueue 26 = .ok (.putfield 156, 3) := by decide +kernel
theorem dX2_leaveQueue_29 : decode cX2_leaveQueue 29 = .ok (.aload_n 1, 1) := by decide +kernel
theorem dX2_leaveQueue_30 : decode cX2_leaveQueue 30 = .ok (.iconst (-1), 1) := by decide +kernel
theorem dX2_leaveQueue_31 : decode cX2_leaveQueue 31 = .ok (.putfield 166, 3) := by decide +kernel
theorem dX2_leaveQueue_34 : decode cX2_leaveQueue 34 = .ok (.iload_n 3, 1) := by decide +kernel
theorem dX2_leaveQueue_35 : decode cX2_leaveQueue 35 = .ok (.ifCond .eq 33, 3) := by decide +kernel
theorem dX2_leaveQueue_38 : decode cX2_leaveQueue 38 = .ok (.iload_n 2, 1) := by decide +kernel
theorem dX2_leaveQueue_39 : decode cX2_leaveQueue 39 = .ok (.invokestatic 186, 3) := by decide +kernel
theorem dX2_leaveQueue_42 : decode cX2_leaveQueue 42 = .ok (.ifCond .eq 26, 3) := by decide +kernel
theorem dX2_leaveQueue_45 : decode cX2_leaveQueue 45 = .ok (.aload_n 0, 1) := by decide +kernel
theorem dX2_leaveQueue_46 : decode cX2_leaveQueue 46 = .ok (.iload_n 2, 1) := by decide +kernel
theorem dX2_leaveQueue_47 : decode cX2_leaveQueue 47 = .ok (.invokevirtual 215, 3) := by decide +kernel
theorem dX2_leaveQueue_50 : decode cX2_leaveQueue 50 = .ok (.ifnonnull 18, 3) := by decide +kernel
theorem dX2_leaveQueue_53 : decode cX2_leaveQueue 53 = .ok (.aload_n 0, 1) := by decide +kernel
theorem dX2_leaveQueue_54 : decode cX2_leaveQueue 54 = .ok (.getfield 9, 3) := by decide +kernel
theorem dX2_leaveQueue_57 : decode cX2_leaveQueue 57 = .ok (.iload_n 2, 1) := by decide +kernel
theorem dX2_leaveQueue_58 : decode cX2_leaveQueue 58 = .ok (.aload_n 0, 1) := by decide +kernel
theorem dX2_leaveQueue_59 : decode cX2_leaveQueue 59 = .ok (.getfield 9, 3) := by decide +kernel
theorem dX2_leaveQueue_62 : decode cX2_leaveQueue 62 = .ok (.iload_n 2, 1) := by decide +kernel
theorem dX2_leaveQueue_63 : decode cX2_leaveQueue 63 = .ok (.iaload, 1) := by decide +kernel
theorem dX2_leaveQueue_64 : decode cX2_leaveQueue 64 = .ok (.ldc 218, 2) := by decide +kernel
theorem dX2_leaveQueue_66 : decode cX2_leaveQueue 66 = .ok (.iand, 1) := by decide +kernel
theorem dX2_leaveQueue_67 : decode cX2_leaveQueue 67 = .ok (.iastore, 1) := by decide +kernel
theorem dX2_leaveQueue_68 : decode cX2_leaveQueue 68 = .ok (.return_, 1) := by decide +kernel
set_option maxRecDepth 20000 in
theorem ggX2_wakeFirst_X2_firstAt : GoodIn wsX2_wakeFirst wsX2_firstAt := goodIn_r _ [5, 6, 7, 8, 9, 10, 11, 12, 13, 14, 15, 16, 38, 39, 40, 41, 42, 43, 44, 45, 46, 47, 48, 49, 50, 51, 52, 53, 54] (by decide +kernel) (by decide +kernel)
set_option maxRecDepth 20000 in
theorem gX2_wakeFirst_X2_firstAt : GoodIn wsX2_wakeFirst (wsV RX2 208 RX2 yX2_firstAt wsX2_firstAt) := goodIn_app (goodIn_of _ (by decide +kernel)) ggX2_wakeFirst_X2_firstAt
set_option maxRecDepth 20000 in
theorem ggX2_wakeFirst_X2_endWait : GoodIn wsX2_wakeFirst wsX2_endWait := goodIn_r _ [20, 21, 22, 23, 24, 25, 26, 4, 27, 7, 8, 28, 29, 30, 31, 32, 33, 34, 35, 36, 37, 1, 2, 3, 5, 6, 9, 10, 11, 12, 13, 14, 15, 16, 44, 45, 46, 47, 48, 49, 50, 51, 52, 53, 54, 38, 39, 40, 41, 42, 43] (by decide +kernel) (by decide +kernel)
set_option maxRecDepth 20000 in
theorem gX2_wakeFirst_X2_endWait : GoodIn wsX2_wakeFirst (wsV RX2 132 RX2 yX2_endWait wsX2_endWait) := goodIn_app (goodIn_of _ (by decide +kernel)) ggX2_wakeFirst_X2_endWait
theorem dX2_wakeFirst_0 : decode cX2_wakeFirst 0 = .ok (.iconst 0, 1) := by decide +kernel
theorem dX2_wakeFirst_1 : decode cX2_wakeFirst 1 = .ok (.istore 4, 2) := by decide +kernel
theorem dX2_wakeFirst_3 : decode cX2_wakeFirst 3 = .ok (.iload 4, 2) := by decide +kernel
theorem dX2_wakeFirst_5 : decode cX2_wakeFirst 5 = .ok (.iload_n 2, 1) := by decide +kernel
theorem dX2_wakeFirst_6 : decode cX2_wakeFirst 6 = .ok (.if_icmp .ge 33, 3) := by decide +kernel
theorem dX2_wakeFirst_9 : decode cX2_wakeFirst 9 = .ok (.aload_n 0, 1) := by decide +kernel
theorem dX2_wakeFirst_10 : decode cX2_wakeFirst 10 = .ok (.iload_n 1, 1) := by decide +kernel
theorem dX2_wakeFirst_11 : decode cX2_wakeFirst 11 = .ok (.iconst 1, 1) := by decide +kernel
theorem dX2_wakeFirst_12 : decode cX2_wakeFirst 12 = .ok (.iload_n 3, 1) := by decide +kernel
theorem dX2_wakeFirst_13 : decode cX2_wakeFirst 13 = .ok (.invokevirtual 208, 3) := by decide +kernel
theorem dX2_wakeFirst_16 : decode cX2_wakeFirst 16 = .ok (.astore 5, 2) := by decide +kernel
theorem dX2_wakeFirst_18 : decode cX2_wakeFirst 18 = .ok (.aload 5, 2) := by decide +kernel
theorem dX2_wakeFirst_20 : decode cX2_wakeFirst 20 = .ok (.ifnonnull 6, 3) := by decide +kernel
theorem dX2_wakeFirst_23 : decode cX2_wakeFirst 23 = .ok (.iload 4, 2) := by decide +kernel
theorem dX2_wakeFirst_25 : decode cX2_wakeFirst 25 = .ok (.ireturn, 1) := by decide +kernel
theorem dX2_wakeFirst_26 : decode cX2_wakeFirst 26 = .ok (.aload_n 0, 1) := by decide +kernel
theorem dX2_wakeFirst_27 : decode cX2_wakeFirst 27 = .ok (.aload 5, 2) := by decide +kernel
theorem dX2_wakeFirst_29 : decode cX2_wakeFirst 29 = .ok (.iconst 0, 1) := by decide +kernel
theorem dX2_wakeFirst_30 : decode cX2_wakeFirst 30 = .ok (.invokevirtual 132, 3) := by decide +kernel
theorem dX2_wakeFirst_33 : decode cX2_wakeFirst 33 = .ok (.iinc 4 1, 3) := by decide +kernel
theorem dX2_wakeFirst_36 : decode cX2_wakeFirst 36 = .ok (.goto (-33), 3) := by decide +kernel
theorem dX2_wakeFirst_39 : decode cX2_wakeFirst 39 = .ok (.iload_n 2, 1) := by decide +kernel
theorem dX2_wakeFirst_40 : decode cX2_wakeFirst 40 = .ok (.ireturn, 1) := by decide +kernel
set_option maxRecDepth 20000 in
theorem ggX2_moveFirst_X2_firstAt : GoodIn wsX2_moveFirst wsX2_firstAt := goodIn_r _ [5, 6, 7, 8, 9, 10, 11, 12, 13, 14, 15, 16, 23, 24, 25, 26, 27, 28, 29, 30, 31, 32, 33, 34, 35, 36, 37, 38, 39] (by decide +kernel) (by decide +kernel)
set_option maxRecDepth 20000 in
theorem gX2_moveFirst_X2_firstAt : GoodIn wsX2_moveFirst (wsV RX2 208 RX2 yX2_firstAt wsX2_firstAt) := goodIn_app (goodIn_of _ (by decide +kernel)) ggX2_moveFirst_X2_firstAt
set_option maxRecDepth 20000 in
theorem ggX2_moveFirst_X2_joinQueue : GoodIn wsX2_moveFirst wsX2_joinQueue := goodIn_r _ [20, 7, 21, 22, 29, 30, 31, 32, 33, 34, 35, 36, 37, 38, 39, 23, 24, 25, 26, 27, 28] (by decide +kernel) (by decide +kernel)
set_option maxRecDepth 20000 in
theorem gX2_moveFirst_X2_joinQueue : GoodIn wsX2_moveFirst (wsV RX2 159 RX2 yX2_joinQueue wsX2_joinQueue) := goodIn_app (goodIn_of _ (by decide +kernel)) ggX2_moveFirst_X2_joinQueue
theorem dX2_moveFirst_0 : decode cX2_moveFirst 0 = .ok (.iconst 0, 1) := by decide +kernel
theorem dX2_moveFirst_1 : decode cX2_moveFirst 1 = .ok (.istore 4, 2) := by decide +kernel
theorem dX2_moveFirst_3 : decode cX2_moveFirst 3 = .ok (.iload 4, 2) := by decide +kernel
theorem dX2_moveFirst_5 : decode cX2_moveFirst 5 = .ok (.iload_n 3, 1) := by decide +kernel
theorem dX2_moveFirst_6 : decode cX2_moveFirst 6 = .ok (.if_icmp .ge 35, 3) := by decide +kernel
theorem dX2_moveFirst_9 : decode cX2_moveFirst 9 = .ok (.aload_n 0, 1) := by decide +kernel
theorem dX2_moveFirst_10 : decode cX2_moveFirst 10 = .ok (.iload_n 1, 1) := by decide +kernel
theorem dX2_moveFirst_11 : decode cX2_moveFirst 11 = .ok (.iconst 1, 1) := by decide +kernel
theorem dX2_moveFirst_12 : decode cX2_moveFirst 12 = .ok (.sipush 255, 3) := by decide +kernel
theorem dX2_moveFirst_15 : decode cX2_moveFirst 15 = .ok (.invokevirtual 208, 3) := by decide +kernel
theorem dX2_moveFirst_18 : decode cX2_moveFirst 18 = .ok (.astore 5, 2) := by decide +kernel
theorem dX2_moveFirst_20 : decode cX2_moveFirst 20 = .ok (.aload 5, 2) := by decide +kernel
theorem dX2_moveFirst_22 : decode cX2_moveFirst 22 = .ok (.ifnonnull 6, 3) := by decide +kernel
theorem dX2_moveFirst_25 : decode cX2_moveFirst 25 = .ok (.iload 4, 2) := by decide +kernel
theorem dX2_moveFirst_27 : decode cX2_moveFirst 27 = .ok (.ireturn, 1) := by decide +kernel
theorem dX2_moveFirst_28 : decode cX2_moveFirst 28 = .ok (.aload_n 0, 1) := by decide +kernel
theorem dX2_moveFirst_29 : decode cX2_moveFirst 29 = .ok (.aload 5, 2) := by decide +kernel
theorem dX2_moveFirst_31 : decode cX2_moveFirst 31 = .ok (.iload_n 2, 1) := by decide +kernel
theorem dX2_moveFirst_32 : decode cX2_moveFirst 32 = .ok (.invokevirtual 159, 3) := by decide +kernel
theorem dX2_moveFirst_35 : decode cX2_moveFirst 35 = .ok (.iinc 4 1, 3) := by decide +kernel
theorem dX2_moveFirst_38 : decode cX2_moveFirst 38 = .ok (.goto (-35), 3) := by decide +kernel
theorem dX2_moveFirst_41 : decode cX2_moveFirst 41 = .ok (.iload_n 3, 1) := by decide +kernel
theorem dX2_moveFirst_42 : decode cX2_moveFirst 42 = .ok (.ireturn, 1) := by decide +kernel
set_option maxRecDepth 20000 in
theorem ggX2_firstToTimeOut_X1_timesOutBefore : GoodIn wsX2_firstToTimeOut wsX1_timesOutBefore := goodIn_r _ [7, 8, 9, 16, 17, 18, 19, 20, 21, 22, 23, 24, 25, 26] (by decide +kernel) (by decide +kernel)
set_option maxRecDepth 20000 in
theorem gX2_firstToTimeOut_X1_timesOutBefore : GoodIn wsX2_firstToTimeOut (wsV RX2 219 RX1 yX1_timesOutBefore wsX1_timesOutBefore) := goodIn_app (goodIn_of _ (by decide +kernel)) ggX2_firstToTimeOut_X1_timesOutBefore
theorem dX2_firstToTimeOut_0 : decode cX2_firstToTimeOut 0 = .ok (.aconst_null, 1) := by decide +kernel
theorem dX2_firstToTimeOut_1 : decode cX2_firstToTimeOut 1 = .ok (.astore_n 1, 1) := by decide +kernel
theorem dX2_firstToTimeOut_2 : decode cX2_firstToTimeOut 2 = .ok (.aload_n 0, 1) := by decide +kernel
theorem dX2_firstToTimeOut_3 : decode cX2_firstToTimeOut 3 = .ok (.getfield 15, 3) := by decide +kernel
theorem dX2_firstToTimeOut_6 : decode cX2_firstToTimeOut 6 = .ok (.astore_n 2, 1) := by decide +kernel
theorem dX2_firstToTimeOut_7 : decode cX2_firstToTimeOut 7 = .ok (.aload_n 2, 1) := by decide +kernel
theorem dX2_firstToTimeOut_8 : decode cX2_firstToTimeOut 8 = .ok (.arraylength, 1) := by decide +kernel
theorem dX2_firstToTimeOut_9 : decode cX2_firstToTimeOut 9 = .ok (.istore_n 3, 1) := by decide +kernel
theorem dX2_firstToTimeOut_10 : decode cX2_firstToTimeOut 10 = .ok (.iconst 0, 1) := by decide +kernel
theorem dX2_firstToTimeOut_11 : decode cX2_firstToTimeOut 11 = .ok (.istore 4, 2) := by decide +kernel
theorem dX2_firstToTimeOut_13 : decode cX2_firstToTimeOut 13 = .ok (.iload 4, 2) := by decide +kernel
theorem dX2_firstToTimeOut_15 : decode cX2_firstToTimeOut 15 = .ok (.iload_n 3, 1) := by decide +kernel
theorem dX2_firstToTimeOut_16 : decode cX2_firstToTimeOut 16 = .ok (.if_icmp .ge 40, 3) := by decide +kernel
theorem dX2_firstToTimeOut_19 : decode cX2_firstToTimeOut 19 = .ok (.aload_n 2, 1) := by decide +kernel
theorem dX2_firstToTimeOut_20 : decode cX2_firstToTimeOut 20 = .ok (.iload 4, 2) := by decide +kernel
theorem dX2_firstToTimeOut_22 : decode cX2_firstToTimeOut 22 = .ok (.aaload, 1) := by decide +kernel
theorem dX2_firstToTimeOut_23 : decode cX2_firstToTimeOut 23 = .ok (.astore 5, 2) := by decide +kernel
theorem dX2_firstToTimeOut_25 : decode cX2_firstToTimeOut 25 = .ok (.aload 5, 2) := by decide +kernel
theorem dX2_firstToTimeOut_27 : decode cX2_firstToTimeOut 27 = .ok (.getfield 166, 3) := by decide +kernel
theorem dX2_firstToTimeOut_30 : decode cX2_firstToTimeOut 30 = .ok (.iconst (-1), 1) := by decide +kernel
theorem dX2_firstToTimeOut_31 : decode cX2_firstToTimeOut 31 = .ok (.if_icmp .eq 19, 3) := by decide +kernel
theorem dX2_firstToTimeOut_34 : decode cX2_firstToTimeOut 34 = .ok (.aload_n 1, 1) := by decide +kernel
theorem dX2_firstToTimeOut_35 : decode cX2_firstToTimeOut 35 = .ok (.ifnull 12, 3) := by decide +kernel
theorem dX2_firstToTimeOut_38 : decode cX2_firstToTimeOut 38 = .ok (.aload 5, 2) := by decide +kernel
theorem dX2_firstToTimeOut_40 : decode cX2_firstToTimeOut 40 = .ok (.aload_n 1, 1) := by decide +kernel
theorem dX2_firstToTimeOut_41 : decode cX2_firstToTimeOut 41 = .ok (.invokevirtual 219, 3) := by decide +kernel
theorem dX2_firstToTimeOut_44 : decode cX2_firstToTimeOut 44 = .ok (.ifCond .eq 6, 3) := by decide +kernel
theorem dX2_firstToTimeOut_47 : decode cX2_firstToTimeOut 47 = .ok (.aload 5, 2) := by decide +kernel
theorem dX2_firstToTimeOut_49 : decode cX2_firstToTimeOut 49 = .ok (.astore_n 1, 1) := by decide +kernel
theorem dX2_firstToTimeOut_50 : decode cX2_firstToTimeOut 50 = .ok (.iinc 4 1, 3) := by decide +kernel
theorem dX2_firstToTimeOut_53 : decode cX2_firstToTimeOut 53 = .ok (.goto (-40), 3) := by decide +kernel
theorem dX2_firstToTimeOut_56 : decode cX2_firstToTimeOut 56 = .ok (.aload_n 1, 1) := by decide +kernel
theorem dX2_firstToTimeOut_57 : decode cX2_firstToTimeOut 57 = .ok (.areturn, 1) := by decide +kernel
set_option maxRecDepth 20000 in
theorem ggX2_ownerAt_X2_isAddress : GoodIn wsX2_ownerAt wsX2_isAddress := goodIn_r _ [6] (by decide +kernel) (by decide +kernel)
set_option maxRecDepth 20000 in
theorem gX2_ownerAt_X2_isAddress : GoodIn wsX2_ownerAt (va_wsS RX2 186 yX2_isAddress wsX2_isAddress) := goodIn_app (goodIn_of _ (by decide +kernel)) ggX2_ownerAt_X2_isAddress
theorem dX2_ownerAt_0 : decode cX2_ownerAt 0 = .ok (.iload_n 1, 1) := by decide +kernel
theorem dX2_ownerAt_1 : decode cX2_ownerAt 1 = .ok (.invokestatic 186, 3) := by decide +kernel
theorem dX2_ownerAt_4 : decode cX2_ownerAt 4 = .ok (.ifCond .ne 5, 3) := by decide +kernel
theorem dX2_ownerAt_7 : decode cX2_ownerAt 7 = .ok (.aconst_null, 1) := by decide +kernel
theorem dX2_ownerAt_8 : decode cX2_ownerAt 8 = .ok (.areturn, 1) := by decide +kernel
theorem dX2_ownerAt_9 : decode cX2_ownerAt 9 = .ok (.aload_n 0, 1) := by decide +kernel
theorem dX2_ownerAt_10 : decode cX2_ownerAt 10 = .ok (.getfield 9, 3) := by decide +kernel
theorem dX2_ownerAt_13 : decode cX2_ownerAt 13 = .ok (.iload_n 1, 1) := by decide +kernel
theorem dX2_ownerAt_14 : decode cX2_ownerAt 14 = .ok (.iaload, 1) := by decide +kernel
theorem dX2_ownerAt_15 : decode cX2_ownerAt 15 = .ok (.sipush 255, 3) := by decide +kernel
theorem dX2_ownerAt_18 : decode cX2_ownerAt 18 = .ok (.iand, 1) := by decide +kernel
theorem dX2_ownerAt_19 : decode cX2_ownerAt 19 = .ok (.istore_n 2, 1) := by decide +kernel
theorem dX2_ownerAt_20 : decode cX2_ownerAt 20 = .ok (.iload_n 2, 1) := by decide +kernel
theorem dX2_ownerAt_21 : decode cX2_ownerAt 21 = .ok (.iconst 1, 1) := by decide +kernel
theorem dX2_ownerAt_22 : decode cX2_ownerAt 22 = .ok (.if_icmp .lt 20, 3) := by decide +kernel
theorem dX2_ownerAt_25 : decode cX2_ownerAt 25 = .ok (.iload_n 2, 1) := by decide +kernel
theorem dX2_ownerAt_26 : decode cX2_ownerAt 26 = .ok (.bipush 8, 2) := by decide +kernel
theorem dX2_ownerAt_28 : decode cX2_ownerAt 28 = .ok (.if_icmp .gt 14, 3) := by decide +kernel
theorem dX2_ownerAt_31 : decode cX2_ownerAt 31 = .ok (.aload_n 0, 1) := by decide +kernel
theorem dX2_ownerAt_32 : decode cX2_ownerAt 32 = .ok (.getfield 15, 3) := by decide +kernel
theorem dX2_ownerAt_35 : decode cX2_ownerAt 35 = .ok (.iload_n 2, 1) := by decide +kernel
theorem dX2_ownerAt_36 : decode cX2_ownerAt 36 = .ok (.iconst 1, 1) := by decide +kernel
theorem dX2_ownerAt_37 : decode cX2_ownerAt 37 = .ok (.isub, 1) := by decide +kernel
theorem dX2_ownerAt_38 : decode cX2_ownerAt 38 = .ok (.aaload, 1) := by decide +kernel
theorem dX2_ownerAt_39 : decode cX2_ownerAt 39 = .ok (.goto 4, 3) := by decide +kernel
theorem dX2_ownerAt_42 : decode cX2_ownerAt 42 = .ok (.aconst_null, 1) := by decide +kernel
theorem dX2_ownerAt_43 : decode cX2_ownerAt 43 = .ok (.areturn, 1) := by decide +kernel
set_option maxRecDepth 20000 in
theorem ggX2_giveLock_X2_isAddress : GoodIn wsX2_giveLock wsX2_isAddress := goodIn_r _ [8] (by decide +kernel) (by decide +kernel)
set_option maxRecDepth 20000 in
theorem gX2_giveLock_X2_isAddress : GoodIn wsX2_giveLock (va_wsS RX2 186 yX2_isAddress wsX2_isAddress) := goodIn_app (goodIn_of _ (by decide +kernel)) ggX2_giveLock_X2_isAddress
set_option maxRecDepth 20000 in
theorem ggX2_giveLock_X2_firstLockingAt : GoodIn wsX2_giveLock wsX2_firstLockingAt := goodIn_r _ [12, 13, 14, 15, 7, 16, 17, 18, 19, 20, 21, 22, 23, 24, 25, 26, 27, 39, 40, 41, 42, 43, 44, 45, 46, 47, 48, 49, 50, 51, 52, 53, 54, 55] (by decide +kernel) (by decide +kernel)
set_option maxRecDepth 20000 in
theorem gX2_giveLock_X2_firstLockingAt : GoodIn wsX2_giveLock (wsV RX2 215 RX2 yX2_firstLockingAt wsX2_firstLockingAt) := goodIn_app (goodIn_of _ (by decide +kernel)) ggX2_giveLock_X2_firstLockingAt
set_option maxRecDepth 20000 in
theorem ggX2_giveLock_X0_add : GoodIn wsX2_giveLock wsX0_add := goodIn_r _ [32, 33, 34, 35, 36, 37, 31, 38, 56, 57] (by decide +kernel) (by decide +kernel)
set_option maxRecDepth 20000 in
theorem gX2_giveLock_X0_add : GoodIn wsX2_giveLock (wsV RX2 222 RX0 yX0_add wsX0_add) := goodIn_app (goodIn_of _ (by decide +kernel)) ggX2_giveLock_X0_add
theorem dX2_giveLock_0 : decode cX2_giveLock 0 = .ok (.iload_n 2, 1) := by decide +kernel
theorem dX2_giveLock_1 : decode cX2_giveLock 1 = .ok (.invokestatic 186, 3) := by decide +kernel
theorem dX2_giveLock_4 : decode cX2_giveLock 4 = .ok (.ifCond .eq 44, 3) := by decide +kernel
theorem dX2_giveLock_7 : decode cX2_giveLock 7 = .ok (.aload_n 0, 1) := by decide +kernel
theorem dX2_giveLock_8 : decode cX2_giveLock 8 = .ok (.iload_n 2, 1) := by decide +kernel
theorem dX2_giveLock_9 : decode cX2_giveLock 9 = .ok (.invokevirtual 215, 3) := by decide +kernel
theorem dX2_giveLock_12 : decode cX2_giveLock 12 = .ok (.ifnonnull 7, 3) := by decide +kernel
theorem dX2_giveLock_15 : decode cX2_giveLock 15 = .ok (.iconst 0, 1) := by decide +kernel
theorem dX2_giveLock_16 : decode cX2_giveLock 16 = .ok (.goto 5, 3) := by decide +kernel
theorem dX2_giveLock_19 : decode cX2_giveLock 19 = .ok (.ldc 83, 2) := by decide +kernel
theorem dX2_giveLock_21 : decode cX2_giveLock 21 = .ok (.istore 4, 2) := by decide +kernel
theorem dX2_giveLock_23 : decode cX2_giveLock 23 = .ok (.aload_n 0, 1) := by decide +kernel
theorem dX2_giveLock_24 : decode cX2_giveLock 24 = .ok (.getfield 9, 3) := by decide +kernel
theorem dX2_giveLock_27 : decode cX2_giveLock 27 = .ok (.iload_n 2, 1) := by decide +kernel
theorem dX2_giveLock_28 : decode cX2_giveLock 28 = .ok (.aload_n 1, 1) := by decide +kernel
theorem dX2_giveLock_29 : decode cX2_giveLock 29 = .ok (.getfield 173, 3) := by decide +kernel
theorem dX2_giveLock_32 : decode cX2_giveLock 32 = .ok (.iconst 1, 1) := by decide +kernel
theorem dX2_giveLock_33 : decode cX2_giveLock 33 = .ok (.iadd, 1) := by decide +kernel
theorem dX2_giveLock_34 : decode cX2_giveLock 34 = .ok (.iload_n 3, 1) := by decide +kernel
theorem dX2_giveLock_35 : decode cX2_giveLock 35 = .ok (.ior, 1) := by decide +kernel
theorem dX2_giveLock_36 : decode cX2_giveLock 36 = .ok (.iload 4, 2) := by decide +kernel
theorem dX2_giveLock_38 : decode cX2_giveLock 38 = .ok (.ior, 1) := by decide +kernel
theorem dX2_giveLock_39 : decode cX2_giveLock 39 = .ok (.iastore, 1) := by decide +kernel
theorem dX2_giveLock_40 : decode cX2_giveLock 40 = .ok (.aload_n 1, 1) := by decide +kernel
theorem dX2_giveLock_41 : decode cX2_giveLock 41 = .ok (.getfield 89, 3) := by decide +kernel
theorem dX2_giveLock_44 : decode cX2_giveLock 44 = .ok (.iload_n 2, 1) := by decide +kernel
theorem dX2_giveLock_45 : decode cX2_giveLock 45 = .ok (.invokevirtual 222, 3) := by decide +kernel
theorem dX2_giveLock_48 : decode cX2_giveLock 48 = .ok (.return_, 1) := by decide +kernel
set_option maxRecDepth 20000 in
theorem ggX2_passOn_X2_firstLockingAt : GoodIn wsX2_passOn wsX2_firstLockingAt := goodIn_r _ [8, 9, 10, 11, 7, 12, 13, 14, 15, 16, 17, 18, 19, 20, 21, 22, 23, 68, 69, 70, 71, 72, 73, 57, 58, 59, 60, 61, 62, 63, 64, 65, 66, 67] (by decide +kernel) (by decide +kernel)
set_option maxRecDepth 20000 in
theorem gX2_passOn_X2_firstLockingAt : GoodIn wsX2_passOn (wsV RX2 215 RX2 yX2_firstLockingAt wsX2_firstLockingAt) := goodIn_app (goodIn_of _ (by decide +kernel)) ggX2_passOn_X2_firstLockingAt
set_option maxRecDepth 20000 in
theorem ggX2_passOn_X2_endWait : GoodIn wsX2_passOn wsX2_endWait := goodIn_r _ [27, 28, 29, 30, 31, 32, 33, 7, 34, 14, 15, 35, 3, 36, 37, 38, 39, 4, 5, 6, 8, 9, 10, 11, 12, 13, 16, 17, 18, 19, 20, 21, 22, 23, 57, 58, 59, 60, 61, 62, 63, 64, 65, 66, 67, 68, 69, 70, 71, 72, 73] (by decide +kernel) (by decide +kernel)
set_option maxRecDepth 20000 in
theorem gX2_passOn_X2_endWait : GoodIn wsX2_passOn (wsV RX2 132 RX2 yX2_endWait wsX2_endWait) := goodIn_app (goodIn_of _ (by decide +kernel)) ggX2_passOn_X2_endWait
set_option maxRecDepth 20000 in
theorem ggX2_passOn_X2_giveLock : GoodIn wsX2_passOn wsX2_giveLock := goodIn_r _ [43, 44, 3, 2, 45, 37, 38, 7, 39, 4, 5, 6, 8, 9, 10, 11, 12, 13, 14, 15, 16, 17, 18, 19, 20, 21, 22, 23, 46, 47, 48, 49, 50, 51, 52, 53, 54, 55, 56, 68, 69, 70, 71, 72, 73, 57, 58, 59, 60, 61, 62, 63, 64, 65, 66, 67, 74, 75] (by decide +kernel) (by decide +kernel)
set_option maxRecDepth 20000 in
theorem gX2_passOn_X2_giveLock : GoodIn wsX2_passOn (wsV RX2 69 RX2 yX2_giveLock wsX2_giveLock) := goodIn_app (goodIn_of _ (by decide +kernel)) ggX2_passOn_X2_giveLock
set_option maxRecDepth 20000 in
theorem ggX2_passOn_X2_isAddress : GoodIn wsX2_passOn wsX2_isAddress := goodIn_r _ [39] (by decide +kernel) (by decide +kernel)
set_option maxRecDepth 20000 in
theorem gX2_passOn_X2_isAddress : GoodIn wsX2_passOn (va_wsS RX2 186 yX2_isAddress wsX2_isAddress) := goodIn_app (goodIn_of _ (by decide +kernel)) ggX2_passOn_X2_isAddress
theorem dX2_passOn_0 : decode cX2_passOn 0 = .ok (.iload_n 2, 1) := by decide +kernel
theorem dX2_passOn_1 : decode cX2_passOn 1 = .ok (.ifCond .eq 8, 3) := by decide +kernel
theorem dX2_passOn_4 : decode cX2_passOn 4 = .ok (.ldc 68, 2) := by decide +kernel
theorem dX2_passOn_6 : decode cX2_passOn 6 = .ok (.goto 4, 3) := by decide +kernel
theorem dX2_passOn_9 : decode cX2_passOn 9 = .ok (.iconst 0, 1) := by decide +kernel
theorem dX2_passOn_10 : decode cX2_passOn 10 = .ok (.istore_n 3, 1) := by decide +kernel
theorem dX2_passOn_11 : decode cX2_passOn 11 = .ok (.aload_n 0, 1) := by decide +kernel
theorem dX2_passOn_12 : decode cX2_passOn 12 = .ok (.iload_n 1, 1) := by decide +kernel
theorem dX2_passOn_13 : decode cX2_passOn 13 = .ok (.invokevirtual 215, 3) := by decide +kernel
theorem dX2_passOn_16 : decode cX2_passOn 16 = .ok (.astore 4, 2) := by decide +kernel
theorem dX2_passOn_18 : decode cX2_passOn 18 = .ok (.aload 4, 2) := by decide +kernel
theorem dX2_passOn_20 : decode cX2_passOn 20 = .ok (.ifnull 32, 3) := by decide +kernel
theorem dX2_passOn_23 : decode cX2_passOn 23 = .ok (.aload_n 0, 1) := by decide +kernel
theorem dX2_passOn_24 : decode cX2_passOn 24 = .ok (.aload 4, 2) := by decide +kernel
theorem dX2_passOn_26 : decode cX2_passOn 26 = .ok (.iload_n 2, 1) := by decide +kernel
theorem dX2_passOn_27 : decode cX2_passOn 27 = .ok (.ifCond .eq 7, 3) := by decide +kernel
theorem dX2_passOn_30 : decode cX2_passOn 30 = .ok (.iconst 4, 1) := by decide +kernel
theorem dX2_passOn_31 : decode cX2_passOn 31 = .ok (.goto 4, 3) := by decide +kernel
theorem dX2_passOn_34 : decode cX2_passOn 34 = .ok (.iconst 3, 1) := by decide +kernel
theorem dX2_passOn_35 : decode cX2_passOn 35 = .ok (.invokevirtual 132, 3) := by decide +kernel
theorem dX2_passOn_38 : decode cX2_passOn 38 = .ok (.aload_n 0, 1) := by decide +kernel
theorem dX2_passOn_39 : decode cX2_passOn 39 = .ok (.aload 4, 2) := by decide +kernel
theorem dX2_passOn_41 : decode cX2_passOn 41 = .ok (.iload_n 1, 1) := by decide +kernel
theorem dX2_passOn_42 : decode cX2_passOn 42 = .ok (.iload_n 3, 1) := by decide +kernel
theorem dX2_passOn_43 : decode cX2_passOn 43 = .ok (.invokevirtual 69, 3) := by decide +kernel
theorem dX2_passOn_46 : decode cX2_passOn 46 = .ok (.aload 4, 2) := by decide +kernel
theorem dX2_passOn_48 : decode cX2_passOn 48 = .ok (.getfield 173, 3) := by decide +kernel
theorem dX2_passOn_51 : decode cX2_passOn 51 = .ok (.ireturn, 1) := by decide +kernel
theorem dX2_passOn_52 : decode cX2_passOn 52 = .ok (.iload_n 1, 1) := by decide +kernel
theorem dX2_passOn_53 : decode cX2_passOn 53 = .ok (.invokestatic 186, 3) := by decide +kernel
theorem dX2_passOn_56 : decode cX2_passOn 56 = .ok (.ifCond .eq 10, 3) := by decide +kernel
theorem dX2_passOn_59 : decode cX2_passOn 59 = .ok (.aload_n 0, 1) := by decide +kernel
theorem dX2_passOn_60 : decode cX2_passOn 60 = .ok (.getfield 9, 3) := by decide +kernel
theorem dX2_passOn_63 : decode cX2_passOn 63 = .ok (.iload_n 1, 1) := by decide +kernel
theorem dX2_passOn_64 : decode cX2_passOn 64 = .ok (.iload_n 3, 1) := by decide +kernel
theorem dX2_passOn_65 : decode cX2_passOn 65 = .ok (.iastore, 1) := by decide +kernel
theorem dX2_passOn_66 : decode cX2_passOn 66 = .ok (.iconst (-1), 1) := by decide +kernel
theorem dX2_passOn_67 : decode cX2_passOn 67 = .ok (.ireturn, 1) := by decide +kernel
set_option maxRecDepth 20000 in
theorem ggX2_isHeldUpBy_X2_ownerAt : GoodIn wsX2_isHeldUpBy wsX2_ownerAt := goodIn_r _ [7, 8, 9, 10, 11, 6, 12, 24, 25, 26, 27, 28, 29] (by decide +kernel) (by decide +kernel)
set_option maxRecDepth 20000 in
theorem gX2_isHeldUpBy_X2_ownerAt : GoodIn wsX2_isHeldUpBy (wsV RX2 73 RX2 yX2_ownerAt wsX2_ownerAt) := goodIn_app (goodIn_of _ (by decide +kernel)) ggX2_isHeldUpBy_X2_ownerAt
theorem dX2_isHeldUpBy_0 : decode cX2_isHeldUpBy 0 = .ok (.aload_n 1, 1) := by decide +kernel
theorem dX2_isHeldUpBy_1 : decode cX2_isHeldUpBy 1 = .ok (.astore_n 3, 1) := by decide +kernel
theorem dX2_isHeldUpBy_2 : decode cX2_isHeldUpBy 2 = .ok (.iconst 0, 1) := by decide +kernel
theorem dX2_isHeldUpBy_3 : decode cX2_isHeldUpBy 3 = .ok (.istore 4, 2) := by decide +kernel
theorem dX2_isHeldUpBy_5 : decode cX2_isHeldUpBy 5 = .ok (.iload 4, 2) := by decide +kernel
theorem dX2_isHeldUpBy_7 : decode cX2_isHeldUpBy 7 = .ok (.bipush 8, 2) := by decide +kernel
theorem dX2_isHeldUpBy_9 : decode cX2_isHeldUpBy 9 = .ok (.if_icmp .ge 39, 3) := by decide +kernel
theorem dX2_isHeldUpBy_12 : decode cX2_isHeldUpBy 12 = .ok (.aload_n 3, 1) := by decide +kernel
theorem dX2_isHeldUpBy_13 : decode cX2_isHeldUpBy 13 = .ok (.ifnull 11, 3) := by decide +kernel
theorem dX2_isHeldUpBy_16 : decode cX2_isHeldUpBy 16 = .ok (.aload_n 3, 1) := by decide +kernel
theorem dX2_isHeldUpBy_17 : decode cX2_isHeldUpBy 17 = .ok (.getfield 76, 3) := by decide +kernel
theorem dX2_isHeldUpBy_20 : decode cX2_isHeldUpBy 20 = .ok (.iconst 2, 1) := by decide +kernel
theorem dX2_isHeldUpBy_21 : decode cX2_isHeldUpBy 21 = .ok (.if_icmp .eq 5, 3) := by decide +kernel
theorem dX2_isHeldUpBy_24 : decode cX2_isHeldUpBy 24 = .ok (.iconst 0, 1) := by decide +kernel
theorem dX2_isHeldUpBy_25 : decode cX2_isHeldUpBy 25 = .ok (.ireturn, 1) := by decide +kernel
theorem dX2_isHeldUpBy_26 : decode cX2_isHeldUpBy 26 = .ok (.aload_n 0, 1) := by decide +kernel
theorem dX2_isHeldUpBy_27 : decode cX2_isHeldUpBy 27 = .ok (.aload_n 3, 1) := by decide +kernel
theorem dX2_isHeldUpBy_28 : decode cX2_isHeldUpBy 28 = .ok (.getfield 156, 3) := by decide +kernel
theorem dX2_isHeldUpBy_31 : decode cX2_isHeldUpBy 31 = .ok (.invokevirtual 73, 3) := by decide +kernel
theorem dX2_isHeldUpBy_34 : decode cX2_isHeldUpBy 34 = .ok (.astore_n 3, 1) := by decide +kernel
theorem dX2_isHeldUpBy_35 : decode cX2_isHeldUpBy 35 = .ok (.aload_n 3, 1) := by decide +kernel
theorem dX2_isHeldUpBy_36 : decode cX2_isHeldUpBy 36 = .ok (.aload_n 2, 1) := by decide +kernel
theorem dX2_isHeldUpBy_37 : decode cX2_isHeldUpBy 37 = .ok (.if_acmp .ne 5, 3) := by decide +kernel
theorem dX2_isHeldUpBy_40 : decode cX2_isHeldUpBy 40 = .ok (.iconst 1, 1) := by decide +kernel
theorem dX2_isHeldUpBy_41 : decode cX2_isHeldUpBy 41 = .ok (.ireturn, 1) := by decide +kernel
theorem dX2_isHeldUpBy_42 : decode cX2_isHeldUpBy 42 = .ok (.iinc 4 1, 3) := by decide +kernel
theorem dX2_isHeldUpBy_45 : decode cX2_isHeldUpBy 45 = .ok (.goto (-40), 3) := by decide +kernel
theorem dX2_isHeldUpBy_48 : decode cX2_isHeldUpBy 48 = .ok (.iconst 0, 1) := by decide +kernel
theorem dX2_isHeldUpBy_49 : decode cX2_isHeldUpBy 49 = .ok (.ireturn, 1) := by decide +kernel
set_option maxRecDepth 20000 in
theorem ggX2_blockedByOneOf_X2_ownerAt : GoodIn wsX2_blockedByOneOf wsX2_ownerAt := goodIn_r _ [8, 9, 1, 10, 11, 7, 12, 19, 20, 21, 22, 23, 24] (by decide +kernel) (by decide +kernel)
set_option maxRecDepth 20000 in
theorem gX2_blockedByOneOf_X2_ownerAt : GoodIn wsX2_blockedByOneOf (wsV RX2 73 RX2 yX2_ownerAt wsX2_ownerAt) := goodIn_app (goodIn_of _ (by decide +kernel)) ggX2_blockedByOneOf_X2_ownerAt
set_option maxRecDepth 20000 in
theorem ggX2_blockedByOneOf_X1_bit : GoodIn wsX2_blockedByOneOf wsX1_bit := goodIn_r _ [17, 18, 25, 26, 27, 28, 29, 30, 31, 32, 33, 34, 35] (by decide +kernel) (by decide +kernel)
set_option maxRecDepth 20000 in
theorem gX2_blockedByOneOf_X1_bit : GoodIn wsX2_blockedByOneOf (wsV RX2 114 RX1 yX1_bit wsX1_bit) := goodIn_app (goodIn_of _ (by decide +kernel)) ggX2_blockedByOneOf_X1_bit
theorem dX2_blockedByOneOf_0 : decode cX2_blockedByOneOf 0 = .ok (.iconst 0, 1) := by decide +kernel
theorem dX2_blockedByOneOf_1 : decode cX2_blockedByOneOf 1 = .ok (.istore_n 2, 1) := by decide +kernel
theorem dX2_blockedByOneOf_2 : decode cX2_blockedByOneOf 2 = .ok (.aload_n 0, 1) := by decide +kernel
theorem dX2_blockedByOneOf_3 : decode cX2_blockedByOneOf 3 = .ok (.getfield 15, 3) := by decide +kernel
theorem dX2_blockedByOneOf_6 : decode cX2_blockedByOneOf 6 = .ok (.astore_n 3, 1) := by decide +kernel
theorem dX2_blockedByOneOf_7 : decode cX2_blockedByOneOf 7 = .ok (.aload_n 3, 1) := by decide +kernel
theorem dX2_blockedByOneOf_8 : decode cX2_blockedByOneOf 8 = .ok (.arraylength, 1) := by decide +kernel
theorem dX2_blockedByOneOf_9 : decode cX2_blockedByOneOf 9 = .ok (.istore 4, 2) := by decide +kernel
theorem dX2_blockedByOneOf_11 : decode cX2_blockedByOneOf 11 = .ok (.iconst 0, 1) := by decide +kernel
theorem dX2_blockedByOneOf_12 : decode cX2_blockedByOneOf 12 = .ok (.istore 5, 2) := by decide +kernel
theorem dX2_blockedByOneOf_14 : decode cX2_blockedByOneOf 14 = .ok (.iload 5, 2) := by decide +kernel
theorem dX2_blockedByOneOf_16 : decode cX2_blockedByOneOf 16 = .ok (.iload 4, 2) := by decide +kernel
theorem dX2_blockedByOneOf_18 : decode cX2_blockedByOneOf 18 = .ok (.if_icmp .ge 62, 3) := by decide +kernel
theorem dX2_blockedByOneOf_21 : decode cX2_blockedByOneOf 21 = .ok (.aload_n 3, 1) := by decide +kernel
theorem dX2_blockedByOneOf_22 : decode cX2_blockedByOneOf 22 = .ok (.iload 5, 2) := by decide +kernel
theorem dX2_blockedByOneOf_24 : decode cX2_blockedByOneOf 24 = .ok (.aaload, 1) := by decide +kernel
theorem dX2_blockedByOneOf_25 : decode cX2_blockedByOneOf 25 = .ok (.astore 6, 2) := by decide +kernel
theorem dX2_blockedByOneOf_27 : decode cX2_blockedByOneOf 27 = .ok (.aload 6, 2) := by decide +kernel
theorem dX2_blockedByOneOf_29 : decode cX2_blockedByOneOf 29 = .ok (.getfield 76, 3) := by decide +kernel
theorem dX2_blockedByOneOf_32 : decode cX2_blockedByOneOf 32 = .ok (.iconst 2, 1) := by decide +kernel
theorem dX2_blockedByOneOf_33 : decode cX2_blockedByOneOf 33 = .ok (.if_icmp .ne 15, 3) := by decide +kernel
theorem dX2_blockedByOneOf_36 : decode cX2_blockedByOneOf 36 = .ok (.aload_n 0, 1) := by decide +kernel
theorem dX2_blockedByOneOf_37 : decode cX2_blockedByOneOf 37 = .ok (.aload 6, 2) := by decide +kernel
theorem dX2_blockedByOneOf_39 : decode cX2_blockedByOneOf 39 = .ok (.getfield 156, 3) := by decide +kernel
theorem dX2_blockedByOneOf_42 : decode cX2_blockedByOneOf 42 = .ok (.invokevirtual 73, 3) := by decide +kernel
theorem dX2_blockedByOneOf_45 : decode cX2_blockedByOneOf 45 = .ok (.goto 4, 3) := by decide +kernel
theorem dX2_blockedByOneOf_48 : decode cX2_blockedByOneOf 48 = .ok (.aconst_null, 1) := by decide +kernel
theorem dX2_blockedByOneOf_49 : decode cX2_blockedByOneOf 49 = .ok (.astore 7, 2) := by decide +kernel
theorem dX2_blockedByOneOf_51 : decode cX2_blockedByOneOf 51 = .ok (.aload 7, 2) := by decide +kernel
theorem dX2_blockedByOneOf_53 : decode cX2_blockedByOneOf 53 = .ok (.ifnull 21, 3) := by decide +kernel
theorem dX2_blockedByOneOf_56 : decode cX2_blockedByOneOf 56 = .ok (.aload 7, 2) := by decide +kernel
theorem dX2_blockedByOneOf_58 : decode cX2_blockedByOneOf 58 = .ok (.invokevirtual 114, 3) := by decide +kernel
theorem dX2_blockedByOneOf_61 : decode cX2_blockedByOneOf 61 = .ok (.iload_n 1, 1) := by decide +kernel
theorem dX2_blockedByOneOf_62 : decode cX2_blockedByOneOf 62 = .ok (.iand, 1) := by decide +kernel
theorem dX2_blockedByOneOf_63 : decode cX2_blockedByOneOf 63 = .ok (.ifCond .eq 11, 3) := by decide +kernel
theorem dX2_blockedByOneOf_66 : decode cX2_blockedByOneOf 66 = .ok (.iload_n 2, 1) := by decide +kernel
theorem dX2_blockedByOneOf_67 : decode cX2_blockedByOneOf 67 = .ok (.aload 6, 2) := by decide +kernel
theorem dX2_blockedByOneOf_69 : decode cX2_blockedByOneOf 69 = .ok (.invokevirtual 114, 3) := by decide +kernel
theorem dX2_blockedByOneOf_72 : decode cX2_blockedByOneOf 72 = .ok (.ior, 1) := by decide +kernel
theorem dX2_blockedByOneOf_73 : decode cX2_blockedByOneOf 73 = .ok (.istore_n 2, 1) := by decide +kernel
theorem dX2_blockedByOneOf_74 : decode cX2_blockedByOneOf 74 = .ok (.iinc 5 1, 3) := by decide +kernel
theorem dX2_blockedByOneOf_77 : decode cX2_blockedByOneOf 77 = .ok (.goto (-63), 3) := by decide +kernel
theorem dX2_blockedByOneOf_80 : decode cX2_blockedByOneOf 80 = .ok (.iload_n 2, 1) := by decide +kernel
theorem dX2_blockedByOneOf_81 : decode cX2_blockedByOneOf 81 = .ok (.ireturn, 1) := by decide +kernel
end
section
/-! pure words: what the methods compute, on the numbers of a state -/
def fk_b (b : Bool) : Int32 := if b then 1 else 0
theorem fk_b_n (b : Bool) : narrow .boolean (.int (fk_b b)) = .int (fk_b b) := by cases b <;> rfl
def fk_isA (a : Int32) : Bool := decide (0 ≤ a) && decide (a < 16)
def fk_isT (a : Int32) : Bool := decide (0 ≤ a) && decide (a < 8)
theorem fk_in_of {a : Int32} {n : Nat} (hn : n < 2 ^ 31) (h0 : 0 ≤ a) (h1 : a < nI n) : vp_in a n := by
  obtain ⟨j, hj, rfl⟩ := nI_of (x := a) (Int32.not_lt.mpr h0)
  exact vp_in_nI ((nI_ltI hj hn).mp h1) hn
theorem fk_isA_in {a : Int32} (h : fk_isA a = true) : vp_in a 16 := by
  simp only [fk_isA, Bool.and_eq_true, decide_eq_true_eq] at h
  exact fk_in_of (by decide) h.1 h.2
theorem fk_isT_in {a : Int32} (h : fk_isT a = true) : vp_in a 8 := by
  simp only [fk_isT, Bool.and_eq_true, decide_eq_true_eq] at h
  exact fk_in_of (by decide) h.1 h.2
theorem fk_isA_nI {a : Nat} (h : a < 16) : fk_isA (nI a) = true := by
  have h1 : (0 : Int32) ≤ nI a := nI_pos' (by omega)
  have h2 : nI a < 16 := nI_lt (b := 16) h (by decide)
  simp [fk_isA, h1, h2]
theorem fk_isT_nI {a : Nat} (h : a < 8) : fk_isT (nI a) = true := by
  have h1 : (0 : Int32) ≤ nI a := nI_pos' (by omega)
  have h2 : nI a < 8 := nI_lt (b := 8) h (by decide)
  simp [fk_isT, h1, h2]
def fk_lp {α : Type} (b : Nat → α → α) : Nat → Nat → α → α
  | 0, _, x => x
  | n + 1, i, x => fk_lp b n (i + 1) (b i x)
def fk_bb (P : Nat → Bool) (lt : Nat → Nat → Bool) (t : Nat) (x : Option Nat) : Option Nat := match x with
  | none => if P t then some t else none
  | some u => if P t && lt t u then some t else some u
def fk_best (P : Nat → Bool) (lt : Nat → Nat → Bool) : Option Nat := fk_lp (fk_bb P lt) 8 0 none
theorem fk_lp_inv {α : Type} {b : Nat → α → α} (I : α → Prop) (N : Nat) (hb : ∀ i x, i < N → I x → I (b i x)) : ∀ n i x, i + n = N → I x → I (fk_lp b n i x) := by
  intro n
  induction n with
  | zero => intro i x _ h; exact h
  | succ n ih => intro i x hi h; exact ih (i + 1) _ (by omega) (hb i x (by omega) h)
theorem fk_lp_congr {α : Type} {b b' : Nat → α → α} (I : α → Prop) (N : Nat) (hb : ∀ i x, i < N → I x → I (b i x)) (he : ∀ i x, i < N → I x → b i x = b' i x) : ∀ n i x, i + n = N → I x → fk_lp b n i x = fk_lp b' n i x := by
  intro n
  induction n with
  | zero => intro i x _ h; rfl
  | succ n ih =>
    intro i x hi h
    show fk_lp b n (i + 1) (b i x) = fk_lp b' n (i + 1) (b' i x)
    rw [← he i x (by omega) h]
    exact ih (i + 1) _ (by omega) (hb i x (by omega) h)
theorem fk_best_spec {P : Nat → Bool} {lt : Nat → Nat → Bool} {t : Nat} (h : fk_best P lt = some t) : t < 8 ∧ P t = true := by
  have := fk_lp_inv (b := fk_bb P lt) (fun x => ∀ u, x = some u → u < 8 ∧ P u = true) 8 (by
    intro i x hi hx u hu
    cases x with
    | none =>
      simp only [fk_bb] at hu
      by_cases hp : P i = true
      · rw [if_pos hp] at hu
        cases hu
        exact ⟨hi, hp⟩
      · rw [if_neg hp] at hu
        cases hu
    | some w =>
      simp only [fk_bb] at hu
      by_cases hp : (P i && lt i w) = true
      · rw [if_pos hp] at hu
        cases hu
        simp only [Bool.and_eq_true] at hp
        exact ⟨hi, hp.1⟩
      · rw [if_neg hp] at hu
        exact hx u hu) 8 0 none rfl (by intro u hu; cases hu)
  exact this t h
theorem fk_best_congr {P P' : Nat → Bool} {lt lt' : Nat → Nat → Bool} (hP : ∀ t, t < 8 → P t = P' t) (hl : ∀ t u, t < 8 → u < 8 → P t = true → P u = true → lt t u = lt' t u) : fk_best P lt = fk_best P' lt' := by
  refine fk_lp_congr (fun x => ∀ u, x = some u → u < 8 ∧ P u = true) 8 ?_ ?_ 8 0 none rfl (by intro u hu; cases hu)
  · intro i x hi hx u hu
    cases x with
    | none =>
      simp only [fk_bb] at hu
      by_cases hp : P i = true
      · rw [if_pos hp] at hu
        cases hu
        exact ⟨hi, hp⟩
      · rw [if_neg hp] at hu
        cases hu
    | some w =>
      simp only [fk_bb] at hu
      by_cases hp : (P i && lt i w) = true
      · rw [if_pos hp] at hu
        cases hu
        simp only [Bool.and_eq_true] at hp
        exact ⟨hi, hp.1⟩
      · rw [if_neg hp] at hu
        exact hx u hu
  · intro i x hi hx
    cases x with
    | none => simp only [fk_bb, hP i hi]
    | some w =>
      obtain ⟨h1, h2⟩ := hx w rfl
      simp only [fk_bb, ← hP i hi]
      by_cases hp : P i = true
      · rw [hl i w hi h1 hp h2]
      · simp [hp]
theorem fk_best_none {P : Nat → Bool} {lt : Nat → Nat → Bool} (h : fk_best P lt = none) : ∀ t, t < 8 → P t = false := by
  have key : ∀ n i x, (∃ u, x = some u) → fk_lp (fk_bb P lt) n i x ≠ none := by
    intro n
    induction n with
    | zero => intro i x ⟨u, hu⟩ h; rw [hu] at h; cases h
    | succ n ih =>
      intro i x ⟨u, hu⟩
      subst hu
      refine ih (i + 1) _ ?_
      simp only [fk_bb]
      by_cases hp : (P i && lt i u) = true
      · exact ⟨i, by rw [if_pos hp]⟩
      · exact ⟨u, by rw [if_neg hp]⟩
  have main : ∀ n i, fk_lp (fk_bb P lt) n i none = none → ∀ t, i ≤ t → t < i + n → P t = false := by
    intro n
    induction n with
    | zero => intro i _ t h1 h2; omega
    | succ n ih =>
      intro i hi t h1 h2
      by_cases hp : P i = true
      · exact absurd hi (key n (i + 1) _ ⟨i, by simp only [fk_bb]; rw [if_pos hp]⟩)
      · have hi' : fk_lp (fk_bb P lt) n (i + 1) none = none := by
          have : fk_bb P lt i none = none := by simp only [fk_bb]; rw [if_neg hp]
          have h3 : fk_lp (fk_bb P lt) n (i + 1) (fk_bb P lt i none) = none := hi
          rw [this] at h3
          exact h3
        by_cases ht : t = i
        · subst ht
          simpa using hp
        · exact ih (i + 1) hi' t (by omega) (by omega)
  intro t ht
  exact main 8 0 h t (by omega) (by omega)
/-- a task or null as a value; a thread's number or -1 -/
def fk_vT (ad : Nat → Nat) (o : Option Nat) : Option Value := some (match o with
  | none => .null
  | some t => .ref (ad (3 + t)))
def fk_oI (o : Option Nat) : Int32 := match o with
  | none => -1
  | some t => nI t
/-! the kernel -/
def kk_ahead (S : fk_S) (t u : Nat) : Bool := decide (S 2 u < S 2 t) || (decide (S 2 t = S 2 u) && decide (S 7 t < S 7 u))
def kk_sooner (S : fk_S) (t u : Nat) : Bool := decide (S 5 t < S 5 u) || (decide (S 5 t = S 5 u) && decide (S 6 t < S 6 u))
def kk_q (S : fk_S) (t : Nat) : Bool := decide (S 3 t ≠ -1)
def kk_fits (S : fk_S) (a st mk : Int32) (t : Nat) : Bool := decide (S 3 t = a) && decide (S 1 t = st) && decide (S 4 t &&& mk ≠ 0)
def kk_first (S : fk_S) (a st mk : Int32) : Option Nat := fk_best (kk_fits S a st mk) (kk_ahead S)
def kk_lk (S : fk_S) (a : Int32) : Option Nat := kk_first S a 2 255
def kk_next (S : fk_S) : Option Nat := fk_best (fun t => decide (S 5 t ≠ -1)) (kk_sooner S)
def kk_join (S : fk_S) (t : Nat) (a : Int32) : fk_S := fk_up (fk_up (fk_up S 3 t a) 12 3 (S 12 3 + 1)) 7 t (S 12 3 + 1)
def kk_begin (S : fk_S) (t : Nat) (st a mk to : Int32) : fk_S :=
  kk_join (fk_up (fk_up (fk_up (fk_up (fk_up S 1 t st) 4 t mk) 5 t (if to = 0 then -1 else S 12 0 + to)) 12 2 (S 12 2 + 1)) 6 t (S 12 2 + 1)) t a
def kk_off (S : fk_S) (t : Nat) : fk_S := fk_up (fk_up (fk_up S 1 t 0) 3 t (-1)) 5 t (-1)
def kk_leave (S : fk_S) (t : Nat) : fk_S :=
  if S 1 t = 2 ∧ fk_isA (S 3 t) = true ∧ kk_lk (kk_off S t) (S 3 t) = none then fk_up (kk_off S t) 0 (S 3 t).toNatClampNeg (S 0 (S 3 t).toNatClampNeg &&& 2147483647) else kk_off S t
def kk_fin (S : fk_S) (t : Nat) (r : Int32) : fk_S := fk_up (fk_up (fk_up S 8 t r) 12 1 (S 12 1 + 1)) 9 t (S 12 1 + 1)
def kk_end (S : fk_S) (t : Nat) (r : Int32) : fk_S := kk_fin (kk_leave S t) t r
def kk_wake (a mk : Int32) : Nat → fk_S → Nat × fk_S
  | 0, S => (0, S)
  | n + 1, S => match kk_first S a 1 mk with
    | none => (0, S)
    | some t => ((kk_wake a mk n (kk_end S t 0)).1 + 1, (kk_wake a mk n (kk_end S t 0)).2)
def kk_move (a b : Int32) : Nat → fk_S → Nat × fk_S
  | 0, S => (0, S)
  | n + 1, S => match kk_first S a 1 255 with
    | none => (0, S)
    | some t => ((kk_move a b n (kk_join S t b)).1 + 1, (kk_move a b n (kk_join S t b)).2)
def kk_owner (S : fk_S) (a : Int32) : Option Nat :=
  if fk_isA a = true ∧ 1 ≤ S 0 a.toNatClampNeg &&& 255 ∧ S 0 a.toNatClampNeg &&& 255 ≤ 8 then some ((S 0 a.toNatClampNeg &&& 255) - 1).toNatClampNeg else none
/-- where an address stands in the list of a thread, from the place i on -/
def fk_find (S : fk_S) (t : Nat) (a : Int32) : Nat → Nat → Option Nat
  | 0, _ => none
  | n + 1, i => if S 11 (16 * t + i) = a then some i else fk_find S t a n (i + 1)
def fk_place (S : fk_S) (t : Nat) (a : Int32) : Option Nat := fk_find S t a (S 10 t).toNatClampNeg 0
def kk_addrAt (S : fk_S) (t : Nat) (k : Int32) : Int32 := if 0 ≤ k ∧ k < S 10 t then S 11 (16 * t + k.toNatClampNeg) else -1
def kk_add (S : fk_S) (t : Nat) (a : Int32) : fk_S :=
  if fk_place S t a = none ∧ S 10 t < 16 then fk_up (fk_up S 11 (16 * t + (S 10 t).toNatClampNeg) a) 10 t (S 10 t + 1) else S
/-- the list's tail goes one place down: n places from k on -/
def fk_shift (t : Nat) : Nat → Nat → fk_S → fk_S
  | 0, _, S => S
  | n + 1, k, S => fk_shift t n (k + 1) (fk_up S 11 (16 * t + k) (S 11 (16 * t + (k + 1))))
def kk_drop (S : fk_S) (t : Nat) (a : Int32) : fk_S := match fk_place S t a with
  | none => S
  | some p => fk_up (fk_shift t ((S 10 t).toNatClampNeg - (p + 1)) p S) 10 t (S 10 t - 1)
def kk_word (S : fk_S) (t : Nat) (a died : Int32) : Int32 := ((nI (t + 1)) ||| died) ||| (if kk_lk S a = none then 0 else -2147483648)
def kk_give (S : fk_S) (t : Nat) (a died : Int32) : fk_S :=
  if fk_isA a = true then kk_add (fk_up S 0 a.toNatClampNeg (kk_word S t a died)) t a else S
def kk_died (b : Bool) : Int32 := if b then 1073741824 else 0
def kk_pass (S : fk_S) (a : Int32) (b : Bool) : fk_S := match kk_lk S a with
  | none => if fk_isA a = true then fk_up S 0 a.toNatClampNeg (kk_died b) else S
  | some t => kk_give (kk_end S t (if b then 4 else 3)) t a (kk_died b)
def kk_held (S : fk_S) (u : Nat) : Nat → Option Nat → Bool
  | 0, _ => false
  | _ + 1, none => false
  | n + 1, some w => if S 1 w = 2 then (if kk_owner S (S 3 w) = some u then true else kk_held S u n (kk_owner S (S 3 w))) else false
def kk_bit (t : Nat) : Int32 := 1 <<< (nI t &&& 31)
def kk_blk1 (S : fk_S) (bl : Int32) (t : Nat) (x : Int32) : Int32 :=
  if S 1 t = 2 then (match kk_owner S (S 3 t) with
    | none => x
    | some u => if kk_bit u &&& bl = 0 then x else x ||| kk_bit t) else x
def kk_blk (S : fk_S) (bl : Int32) : Int32 := fk_lp (kk_blk1 S bl) 8 0 0
def kk_cnt1 (p : Nat → Bool) (t : Nat) (x : Int32) : Int32 := if p t then x + 1 else x
def kk_cntA (S : fk_S) (t : Nat) : Int32 := fk_lp (kk_cnt1 (fun u => decide (S 3 u = S 3 t) && kk_ahead S u t)) 8 0 0
def fk_bkt (a : Int32) : Int32 := (a + a / 4) - (a + a / 4) / 4 * 4
def kk_cntB (S : fk_S) (t : Nat) : Int32 := fk_lp (kk_cnt1 (fun u => kk_q S u && decide (fk_bkt (S 3 u) = fk_bkt (S 3 t)) && kk_ahead S u t)) 8 0 0

theorem fk_nI_m1 {u : Nat} (h : u < 2 ^ 31) : ¬ nI u = -1 := fun e => absurd (show nI u < 0 by rw [e]; decide) (nI_pos h)
theorem fk_find_lt {S : fk_S} {t : Nat} {a : Int32} : ∀ (n i : Nat) {q : Nat}, fk_find S t a n i = some q → i ≤ q ∧ q < i + n := by
  intro n
  induction n with
  | zero => intro i q h; cases h
  | succ n ih =>
    intro i q h
    simp only [fk_find] at h
    by_cases e : S 11 (16 * t + i) = a
    · rw [if_pos e] at h
      cases h
      omega
    · rw [if_neg e] at h
      have := ih (i + 1) h
      omega
theorem fk_place_lt {S : fk_S} {t k : Nat} {a : Int32} {q : Nat} (hk : k ≤ 16) (hs : S 10 t = nI k) (h : fk_place S t a = some q) : q < k := by
  unfold fk_place at h
  rw [hs, nI_clamp (by omega)] at h
  have := fk_find_lt k 0 h
  omega
/-- the lists' sizes -/
def fk_sz (S : fk_S) : Prop := ∀ u, u < 8 → ∃ k, k ≤ 16 ∧ S 10 u = nI k
theorem fk_sz_of {S S' : fk_S} (e : S' 10 = S 10) (h : fk_sz S) : fk_sz S' := fun u hu => by rw [e]; exact h u hu
theorem fk_up_10 {S : fk_S} {f i : Nat} {v : Int32} (h : 10 ≠ f) : fk_up S f i v 10 = S 10 := fk_up_f h
theorem kk_join_10 (S : fk_S) (t : Nat) (a : Int32) : kk_join S t a 10 = S 10 := by simp [kk_join, fk_up]
theorem kk_off_10 (S : fk_S) (t : Nat) : kk_off S t 10 = S 10 := by simp [kk_off, fk_up]
theorem kk_leave_10 (S : fk_S) (t : Nat) : kk_leave S t 10 = S 10 := by
  unfold kk_leave
  split
  · rw [fk_up_f (by decide), kk_off_10]
  · rw [kk_off_10]
theorem kk_end_10 (S : fk_S) (t : Nat) (r : Int32) : kk_end S t r 10 = S 10 := by
  unfold kk_end kk_fin
  rw [fk_up_f (by decide), fk_up_f (by decide), fk_up_f (by decide), kk_leave_10]
theorem fk_own_in {o : Int32} (h1 : ¬ o < 1) (h2 : ¬ 8 < o) : vp_in (o - 1) 8 := by
  have h0 : ¬ o < 0 := fun h => h1 (Int32.lt_trans h (by decide))
  obtain ⟨j, hj, rfl⟩ := nI_of h0
  have a1 : ¬ j < 1 := fun h => h1 (nI_lt (b := 1) h (by decide))
  have a2 : ¬ 8 < j := fun h => h2 (nI_lt (a := 8) h hj)
  obtain ⟨q, rfl⟩ : ∃ q, j = q + 1 := ⟨j - 1, by omega⟩
  rw [nI_pred]
  exact vp_in_nI (by omega) (by decide)
theorem fk_adT {ad : Nat → Nat} {cI cT : ClassId} {S : fk_S} {X : va_W} {A : Nat → Prop} (hD : va_D A (fk_kW ad cI cT S ++ X)) {v u : Nat} (hv : v < 8) (hu : u < 8) (h : some (ad (3 + v)) = some (ad (3 + u))) : v = u := by
  have := hD.1 (3 + v) (3 + u) _ _ (fk_atT hv) (fk_atT hu) (Option.some.inj h)
  omega
theorem kk_first_lt {S : fk_S} {a st mk : Int32} {t : Nat} (h : kk_first S a st mk = some t) : t < 8 := (fk_best_spec h).1
theorem kk_lk_lt {S : fk_S} {a : Int32} {t : Nat} (h : kk_lk S a = some t) : t < 8 := kk_first_lt h
theorem kk_next_lt {S : fk_S} {t : Nat} (h : kk_next S = some t) : t < 8 := (fk_best_spec h).1
theorem kk_owner_lt {S : fk_S} {a : Int32} {t : Nat} (h : kk_owner S a = some t) : t < 8 := by
  unfold kk_owner at h
  split at h
  · next hc =>
    cases h
    have h8 := fk_own_in (o := S 0 a.toNatClampNeg &&& 255) (Int32.not_lt.mpr hc.2.1) (Int32.not_lt.mpr hc.2.2)
    exact Nat.not_le.mp fun q => h8 (Or.inr q)
  · cases h
end
section
abbrev rmX2_isAddress : Room := { frames := 0, cells := 0, slots := 0, locals := 0 }
set_option maxHeartbeats 4000000 in
set_option maxRecDepth 100000 in
theorem kc_isAddress (l : Launch) (D : va_G) (ad : Nat → Nat) (cI cT cJ : ClassId) (X : va_W) (S : fk_S) (a : Int32) : fk_C l D (fk_ty cI cT cJ) yX2_isAddress wsX2_isAddress rmX2_isAddress [.int a] (fk_kW ad cI cT S ++ X) (some (.int (fk_b (fk_isA a)))) (fk_kW ad cI cT S ++ X) := by
  refine fk_C_of (cc := cX2_isAddress) (maxL := 1) (ret := (some .boolean)) (own := RX2) (by decide) rfl rfl (Nat.le_of_ble_eq_true rfl) ?_
  intro p e s m below meth c A ls hx hb hr hlocks hml hts hown hA hP hK hD hl
  have hS : va_S A s.heap s.heap [] := va_S.rf
  have hl : lv_has ls 1 [(0, .int a)] := hl
  refine lv_iload_n hx hb dX2_isAddress_0 rfl (lv_at hl 0 rfl) ?_
  refine lv_if_lt (tgt := 14) hx hb dX2_isAddress_1 (by decide) (fun c_1 => ?_) (fun c_1 => ?_)
  · refine lv_iconst (v := 0) hx hb dX2_isAddress_14 (by decide) ?_
    exact fk_zret hx hb hr hlocks hP hK hD hS (congrArg (fun z => fk_kW ad cI cT z ++ X) (by first | rfl | simp [fk_b, fk_isA, Int32.not_lt, Int32.not_le, c_1, Int32.not_le.mpr c_1])) rfl (by simp [fk_b, fk_isA, c_1, Int32.not_le.mpr c_1]) dX2_isAddress_15
  · refine lv_iload_n hx hb dX2_isAddress_4 rfl (lv_at hl 0 rfl) ?_
    refine lv_bipush (v := 16) hx hb dX2_isAddress_5 (by decide) ?_
    refine lv_icmp_ge (tgt := 14) hx hb dX2_isAddress_7 (by decide) (fun c_2 => ?_) (fun c_2 => ?_)
    · refine lv_iconst (v := 0) hx hb dX2_isAddress_14 (by decide) ?_
      exact fk_zret hx hb hr hlocks hP hK hD hS (congrArg (fun z => fk_kW ad cI cT z ++ X) (by first | rfl | simp [fk_b, fk_isA, Int32.not_lt, Int32.not_le, c_1, Int32.not_lt.mp c_1, c_2, Int32.not_lt.mpr c_2])) rfl (by simp [fk_b, fk_isA, c_1, Int32.not_lt.mp c_1, c_2, Int32.not_lt.mpr c_2]) dX2_isAddress_15
    · refine lv_iconst (v := 1) hx hb dX2_isAddress_10 (by decide) ?_
      refine lv_goto (tgt := 15) hx hb dX2_isAddress_11 (by decide) ?_
      exact fk_zret hx hb hr hlocks hP hK hD hS (congrArg (fun z => fk_kW ad cI cT z ++ X) (by first | rfl | simp [fk_b, fk_isA, Int32.not_lt, Int32.not_le, c_1, Int32.not_lt.mp c_1, c_2, Int32.not_le.mp c_2])) rfl (by simp [fk_b, fk_isA, c_1, Int32.not_lt.mp c_1, c_2, Int32.not_le.mp c_2]) dX2_isAddress_15

abbrev rmX1_bit : Room := { frames := 0, cells := 0, slots := 0, locals := 0 }
set_option maxHeartbeats 4000000 in
set_option maxRecDepth 100000 in
theorem kc_bit (l : Launch) (D : va_G) (ad : Nat → Nat) (cI cT cJ : ClassId) (X : va_W) (S : fk_S) (t : Nat) (ht : t < 8) : fk_C l D (fk_ty cI cT cJ) yX1_bit wsX1_bit rmX1_bit [.ref (ad (3 + t))] (fk_kW ad cI cT S ++ X) (some (.int (kk_bit t))) (fk_kW ad cI cT S ++ X) := by
  refine fk_C_of (cc := cX1_bit) (maxL := 1) (ret := (some .int)) (own := RX1) (by decide) rfl rfl (Nat.le_of_ble_eq_true rfl) ?_
  intro p e s m below meth c A ls hx hb hr hlocks hml hts hown hA hP hK hD hl
  have hS : va_S A s.heap s.heap [] := va_S.rf
  have hl : lv_has ls 1 [(0, .ref (ad (3 + t)))] := hl
  have hiX1 : ∀ w ∈ u_ws RX1 TX1 11, w ∈ wsX1_bit := by decide +kernel
  refine lv_iconst (v := 1) hx hb dX1_bit_0 (by decide) ?_
  refine lv_aload_n hx hb dX1_bit_1 rfl (lv_at hl 0 rfl) ?_
  refine fk_getT hx hb hts hiX1 hown hK hP ht 0 (by decide) (v := .int (nI t)) rfl (List.mem_of_getElem? (i := 1) rfl) rfl dX1_bit_2 ?_
  refine lv_ishl hx hb dX1_bit_5 ?_
  exact fk_iret hx hb hr hlocks hP hK hD hS (congrArg (fun z => fk_kW ad cI cT z ++ X) (by first | rfl | simp [])) (by rfl) dX1_bit_6

abbrev rmX1_isQueued : Room := { frames := 0, cells := 0, slots := 0, locals := 0 }
set_option maxHeartbeats 4000000 in
set_option maxRecDepth 100000 in
theorem kc_isQueued (l : Launch) (D : va_G) (ad : Nat → Nat) (cI cT cJ : ClassId) (X : va_W) (S : fk_S) (t : Nat) (ht : t < 8) : fk_C l D (fk_ty cI cT cJ) yX1_isQueued wsX1_isQueued rmX1_isQueued [.ref (ad (3 + t))] (fk_kW ad cI cT S ++ X) (some (.int (fk_b (kk_q S t)))) (fk_kW ad cI cT S ++ X) := by
  refine fk_C_of (cc := cX1_isQueued) (maxL := 1) (ret := (some .boolean)) (own := RX1) (by decide) rfl rfl (Nat.le_of_ble_eq_true rfl) ?_
  intro p e s m below meth c A ls hx hb hr hlocks hml hts hown hA hP hK hD hl
  have hS : va_S A s.heap s.heap [] := va_S.rf
  have hl : lv_has ls 1 [(0, .ref (ad (3 + t)))] := hl
  have hiX1 : ∀ w ∈ u_ws RX1 TX1 11, w ∈ wsX1_isQueued := by decide +kernel
  refine lv_aload_n hx hb dX1_isQueued_0 rfl (lv_at hl 0 rfl) ?_
  refine fk_getT hx hb hts hiX1 hown hK hP ht 4 (by decide) (v := .int (S 3 t)) rfl (List.mem_of_getElem? (i := 1) rfl) rfl dX1_isQueued_1 ?_
  refine lv_iconst (v := (-1)) hx hb dX1_isQueued_4 (by decide) ?_
  refine lv_icmp_eq (tgt := 12) hx hb dX1_isQueued_5 (by decide) (fun c_1 => ?_) (fun c_1 => ?_)
  · refine lv_iconst (v := 0) hx hb dX1_isQueued_12 (by decide) ?_
    exact fk_zret hx hb hr hlocks hP hK hD hS (congrArg (fun z => fk_kW ad cI cT z ++ X) (by first | rfl | simp [c_1])) rfl (by first | rfl | simp [fk_b, kk_q, c_1] | simp_all [fk_b, kk_q]) dX1_isQueued_13
  · refine lv_iconst (v := 1) hx hb dX1_isQueued_8 (by decide) ?_
    refine lv_goto (tgt := 13) hx hb dX1_isQueued_9 (by decide) ?_
    exact fk_zret hx hb hr hlocks hP hK hD hS (congrArg (fun z => fk_kW ad cI cT z ++ X) (by first | rfl | simp [c_1])) rfl (by first | rfl | simp [fk_b, kk_q, c_1] | simp_all [fk_b, kk_q]) dX1_isQueued_13

abbrev rmX1_isAheadOf : Room := { frames := 0, cells := 0, slots := 0, locals := 0 }
set_option maxHeartbeats 4000000 in
set_option maxRecDepth 100000 in
theorem kc_isAheadOf (l : Launch) (D : va_G) (ad : Nat → Nat) (cI cT cJ : ClassId) (X : va_W) (S : fk_S) (t u : Nat) (ht : t < 8) (hu : u < 8) : fk_C l D (fk_ty cI cT cJ) yX1_isAheadOf wsX1_isAheadOf rmX1_isAheadOf [.ref (ad (3 + t)), .ref (ad (3 + u))] (fk_kW ad cI cT S ++ X) (some (.int (fk_b (kk_ahead S t u)))) (fk_kW ad cI cT S ++ X) := by
  refine fk_C_of (cc := cX1_isAheadOf) (maxL := 2) (ret := (some .boolean)) (own := RX1) (by decide) rfl rfl (Nat.le_of_ble_eq_true rfl) ?_
  intro p e s m below meth c A ls hx hb hr hlocks hml hts hown hA hP hK hD hl
  have hS : va_S A s.heap s.heap [] := va_S.rf
  have hl : lv_has ls 2 [(0, .ref (ad (3 + t))), (1, .ref (ad (3 + u)))] := hl
  have hiX1 : ∀ w ∈ u_ws RX1 TX1 11, w ∈ wsX1_isAheadOf := by decide +kernel
  refine lv_aload_n hx hb dX1_isAheadOf_0 rfl (lv_at hl 0 rfl) ?_
  refine fk_getT hx hb hts hiX1 hown hK hP ht 3 (by decide) (v := .int (S 2 t)) rfl (List.mem_of_getElem? (i := 1) rfl) rfl dX1_isAheadOf_1 ?_
  refine lv_aload_n hx hb dX1_isAheadOf_4 rfl (lv_at hl 1 rfl) ?_
  refine fk_getT hx hb hts hiX1 hown hK hP hu 3 (by decide) (v := .int (S 2 u)) rfl (List.mem_of_getElem? (i := 1) rfl) rfl dX1_isAheadOf_5 ?_
  refine lv_icmp_gt (tgt := 33) hx hb dX1_isAheadOf_8 (by decide) (fun c_1 => ?_) (fun c_1 => ?_)
  · refine lv_iconst (v := 1) hx hb dX1_isAheadOf_33 (by decide) ?_
    refine lv_goto (tgt := 38) hx hb dX1_isAheadOf_34 (by decide) ?_
    exact fk_zret hx hb hr hlocks hP hK hD hS (congrArg (fun z => fk_kW ad cI cT z ++ X) (by first | rfl | simp [c_1, Int32.not_le.mpr c_1])) rfl (by first | rfl | simp [fk_b, kk_ahead, c_1, Int32.not_le.mpr c_1] | simp_all [fk_b, kk_ahead]) dX1_isAheadOf_38
  · refine lv_aload_n hx hb dX1_isAheadOf_11 rfl (lv_at hl 0 rfl) ?_
    refine fk_getT hx hb hts hiX1 hown hK hP ht 3 (by decide) (v := .int (S 2 t)) rfl (List.mem_of_getElem? (i := 1) rfl) rfl dX1_isAheadOf_12 ?_
    refine lv_aload_n hx hb dX1_isAheadOf_15 rfl (lv_at hl 1 rfl) ?_
    refine fk_getT hx hb hts hiX1 hown hK hP hu 3 (by decide) (v := .int (S 2 u)) rfl (List.mem_of_getElem? (i := 1) rfl) rfl dX1_isAheadOf_16 ?_
    refine lv_icmp_ne (tgt := 37) hx hb dX1_isAheadOf_19 (by decide) (fun c_2 => ?_) (fun c_2 => ?_)
    · refine lv_iconst (v := 0) hx hb dX1_isAheadOf_37 (by decide) ?_
      exact fk_zret hx hb hr hlocks hP hK hD hS (congrArg (fun z => fk_kW ad cI cT z ++ X) (by first | rfl | simp [c_1, Int32.not_lt.mp c_1, c_2])) rfl (by first | rfl | simp [fk_b, kk_ahead, c_1, Int32.not_lt.mp c_1, c_2] | simp_all [fk_b, kk_ahead]) dX1_isAheadOf_38
    · refine lv_aload_n hx hb dX1_isAheadOf_22 rfl (lv_at hl 0 rfl) ?_
      refine fk_getT hx hb hts hiX1 hown hK hP ht 8 (by decide) (v := .int (S 7 t)) rfl (List.mem_of_getElem? (i := 2) rfl) rfl dX1_isAheadOf_23 ?_
      refine lv_aload_n hx hb dX1_isAheadOf_26 rfl (lv_at hl 1 rfl) ?_
      refine fk_getT hx hb hts hiX1 hown hK hP hu 8 (by decide) (v := .int (S 7 u)) rfl (List.mem_of_getElem? (i := 2) rfl) rfl dX1_isAheadOf_27 ?_
      refine lv_icmp_ge (tgt := 37) hx hb dX1_isAheadOf_30 (by decide) (fun c_3 => ?_) (fun c_3 => ?_)
      · refine lv_iconst (v := 0) hx hb dX1_isAheadOf_37 (by decide) ?_
        exact fk_zret hx hb hr hlocks hP hK hD hS (congrArg (fun z => fk_kW ad cI cT z ++ X) (by first | rfl | simp [c_1, Int32.not_lt.mp c_1, c_2, c_3, Int32.not_lt.mpr c_3])) rfl (by first | rfl | simp [fk_b, kk_ahead, c_1, Int32.not_lt.mp c_1, c_2, c_3, Int32.not_lt.mpr c_3] | simp_all [fk_b, kk_ahead]) dX1_isAheadOf_38
      · refine lv_iconst (v := 1) hx hb dX1_isAheadOf_33 (by decide) ?_
        refine lv_goto (tgt := 38) hx hb dX1_isAheadOf_34 (by decide) ?_
        exact fk_zret hx hb hr hlocks hP hK hD hS (congrArg (fun z => fk_kW ad cI cT z ++ X) (by first | rfl | simp [c_1, Int32.not_lt.mp c_1, c_2, c_3, Int32.not_le.mp c_3])) rfl (by first | rfl | simp [fk_b, kk_ahead, c_1, Int32.not_lt.mp c_1, c_2, c_3, Int32.not_le.mp c_3] | simp_all [fk_b, kk_ahead]) dX1_isAheadOf_38

abbrev rmX1_timesOutBefore : Room := { frames := 0, cells := 0, slots := 0, locals := 0 }
set_option maxHeartbeats 4000000 in
set_option maxRecDepth 100000 in
theorem kc_timesOutBefore (l : Launch) (D : va_G) (ad : Nat → Nat) (cI cT cJ : ClassId) (X : va_W) (S : fk_S) (t u : Nat) (ht : t < 8) (hu : u < 8) : fk_C l D (fk_ty cI cT cJ) yX1_timesOutBefore wsX1_timesOutBefore rmX1_timesOutBefore [.ref (ad (3 + t)), .ref (ad (3 + u))] (fk_kW ad cI cT S ++ X) (some (.int (fk_b (kk_sooner S t u)))) (fk_kW ad cI cT S ++ X) := by
  refine fk_C_of (cc := cX1_timesOutBefore) (maxL := 2) (ret := (some .boolean)) (own := RX1) (by decide) rfl rfl (Nat.le_of_ble_eq_true rfl) ?_
  intro p e s m below meth c A ls hx hb hr hlocks hml hts hown hA hP hK hD hl
  have hS : va_S A s.heap s.heap [] := va_S.rf
  have hl : lv_has ls 2 [(0, .ref (ad (3 + t))), (1, .ref (ad (3 + u)))] := hl
  have hiX1 : ∀ w ∈ u_ws RX1 TX1 11, w ∈ wsX1_timesOutBefore := by decide +kernel
  refine lv_aload_n hx hb dX1_timesOutBefore_0 rfl (lv_at hl 0 rfl) ?_
  refine fk_getT hx hb hts hiX1 hown hK hP ht 6 (by decide) (v := .int (S 5 t)) rfl (List.mem_of_getElem? (i := 1) rfl) rfl dX1_timesOutBefore_1 ?_
  refine lv_aload_n hx hb dX1_timesOutBefore_4 rfl (lv_at hl 1 rfl) ?_
  refine fk_getT hx hb hts hiX1 hown hK hP hu 6 (by decide) (v := .int (S 5 u)) rfl (List.mem_of_getElem? (i := 1) rfl) rfl dX1_timesOutBefore_5 ?_
  refine lv_icmp_lt (tgt := 33) hx hb dX1_timesOutBefore_8 (by decide) (fun c_1 => ?_) (fun c_1 => ?_)
  · refine lv_iconst (v := 1) hx hb dX1_timesOutBefore_33 (by decide) ?_
    refine lv_goto (tgt := 38) hx hb dX1_timesOutBefore_34 (by decide) ?_
    exact fk_zret hx hb hr hlocks hP hK hD hS (congrArg (fun z => fk_kW ad cI cT z ++ X) (by first | rfl | simp [c_1, Int32.not_le.mpr c_1])) rfl (by first | rfl | simp [fk_b, kk_sooner, c_1, Int32.not_le.mpr c_1] | simp_all [fk_b, kk_sooner]) dX1_timesOutBefore_38
  · refine lv_aload_n hx hb dX1_timesOutBefore_11 rfl (lv_at hl 0 rfl) ?_
    refine fk_getT hx hb hts hiX1 hown hK hP ht 6 (by decide) (v := .int (S 5 t)) rfl (List.mem_of_getElem? (i := 1) rfl) rfl dX1_timesOutBefore_12 ?_
    refine lv_aload_n hx hb dX1_timesOutBefore_15 rfl (lv_at hl 1 rfl) ?_
    refine fk_getT hx hb hts hiX1 hown hK hP hu 6 (by decide) (v := .int (S 5 u)) rfl (List.mem_of_getElem? (i := 1) rfl) rfl dX1_timesOutBefore_16 ?_
    refine lv_icmp_ne (tgt := 37) hx hb dX1_timesOutBefore_19 (by decide) (fun c_2 => ?_) (fun c_2 => ?_)
    · refine lv_iconst (v := 0) hx hb dX1_timesOutBefore_37 (by decide) ?_
      exact fk_zret hx hb hr hlocks hP hK hD hS (congrArg (fun z => fk_kW ad cI cT z ++ X) (by first | rfl | simp [c_1, Int32.not_lt.mp c_1, c_2])) rfl (by first | rfl | simp [fk_b, kk_sooner, c_1, Int32.not_lt.mp c_1, c_2] | simp_all [fk_b, kk_sooner]) dX1_timesOutBefore_38
    · refine lv_aload_n hx hb dX1_timesOutBefore_22 rfl (lv_at hl 0 rfl) ?_
      refine fk_getT hx hb hts hiX1 hown hK hP ht 7 (by decide) (v := .int (S 6 t)) rfl (List.mem_of_getElem? (i := 2) rfl) rfl dX1_timesOutBefore_23 ?_
      refine lv_aload_n hx hb dX1_timesOutBefore_26 rfl (lv_at hl 1 rfl) ?_
      refine fk_getT hx hb hts hiX1 hown hK hP hu 7 (by decide) (v := .int (S 6 u)) rfl (List.mem_of_getElem? (i := 2) rfl) rfl dX1_timesOutBefore_27 ?_
      refine lv_icmp_ge (tgt := 37) hx hb dX1_timesOutBefore_30 (by decide) (fun c_3 => ?_) (fun c_3 => ?_)
      · refine lv_iconst (v := 0) hx hb dX1_timesOutBefore_37 (by decide) ?_
        exact fk_zret hx hb hr hlocks hP hK hD hS (congrArg (fun z => fk_kW ad cI cT z ++ X) (by first | rfl | simp [c_1, Int32.not_lt.mp c_1, c_2, c_3, Int32.not_lt.mpr c_3])) rfl (by first | rfl | simp [fk_b, kk_sooner, c_1, Int32.not_lt.mp c_1, c_2, c_3, Int32.not_lt.mpr c_3] | simp_all [fk_b, kk_sooner]) dX1_timesOutBefore_38
      · refine lv_iconst (v := 1) hx hb dX1_timesOutBefore_33 (by decide) ?_
        refine lv_goto (tgt := 38) hx hb dX1_timesOutBefore_34 (by decide) ?_
        exact fk_zret hx hb hr hlocks hP hK hD hS (congrArg (fun z => fk_kW ad cI cT z ++ X) (by first | rfl | simp [c_1, Int32.not_lt.mp c_1, c_2, c_3, Int32.not_le.mp c_3])) rfl (by first | rfl | simp [fk_b, kk_sooner, c_1, Int32.not_lt.mp c_1, c_2, c_3, Int32.not_le.mp c_3] | simp_all [fk_b, kk_sooner]) dX1_timesOutBefore_38

abbrev rmX2_bucketOf : Room := { frames := 0, cells := 0, slots := 0, locals := 0 }
set_option maxHeartbeats 4000000 in
set_option maxRecDepth 100000 in
theorem kc_bucketOf (l : Launch) (D : va_G) (ad : Nat → Nat) (cI cT cJ : ClassId) (X : va_W) (S : fk_S) (a : Int32) : fk_C l D (fk_ty cI cT cJ) yX2_bucketOf wsX2_bucketOf rmX2_bucketOf [.int a] (fk_kW ad cI cT S ++ X) (some (.int (fk_bkt a))) (fk_kW ad cI cT S ++ X) := by
  refine fk_C_of (cc := cX2_bucketOf) (maxL := 1) (ret := (some .int)) (own := RX2) (by decide) rfl rfl (Nat.le_of_ble_eq_true rfl) ?_
  intro p e s m below meth c A ls hx hb hr hlocks hml hts hown hA hP hK hD hl
  have hS : va_S A s.heap s.heap [] := va_S.rf
  have hl : lv_has ls 1 [(0, .int a)] := hl
  refine lv_iload_n hx hb dX2_bucketOf_0 rfl (lv_at hl 0 rfl) ?_
  refine lv_iload_n hx hb dX2_bucketOf_1 rfl (lv_at hl 0 rfl) ?_
  refine lv_iconst (v := 4) hx hb dX2_bucketOf_2 (by decide) ?_
  refine lv_idiv hx hb dX2_bucketOf_3 (by decide) ?_
  refine lv_iadd hx hb dX2_bucketOf_4 ?_
  refine lv_iconst (v := 4) hx hb dX2_bucketOf_5 (by decide) ?_
  refine lv_irem hx hb dX2_bucketOf_6 (by decide) ?_
  exact fk_iret hx hb hr hlocks hP hK hD hS (congrArg (fun z => fk_kW ad cI cT z ++ X) (by first | rfl | simp [])) (by rfl) dX2_bucketOf_7

abbrev rmX2_joinQueue : Room := { frames := 0, cells := 0, slots := 0, locals := 0 }
set_option maxHeartbeats 4000000 in
set_option maxRecDepth 100000 in
theorem kc_joinQueue (l : Launch) (D : va_G) (ad : Nat → Nat) (cI cT cJ : ClassId) (X : va_W) (S : fk_S) (t : Nat) (a : Int32) (ht : t < 8) : fk_C l D (fk_ty cI cT cJ) yX2_joinQueue wsX2_joinQueue rmX2_joinQueue [.ref (ad 0), .ref (ad (3 + t)), .int a] (fk_kW ad cI cT S ++ X) none (fk_kW ad cI cT (kk_join S t a) ++ X) := by
  refine fk_C_of (cc := cX2_joinQueue) (maxL := 3) (ret := none) (own := RX2) (by decide) rfl rfl (Nat.le_of_ble_eq_true rfl) ?_
  intro p e s m below meth c A ls hx hb hr hlocks hml hts hown hA hP hK hD hl
  have hS : va_S A s.heap s.heap [] := va_S.rf
  have hl : lv_has ls 3 [(0, .ref (ad 0)), (1, .ref (ad (3 + t))), (2, .int a)] := hl
  have hiX1 : ∀ w ∈ u_ws RX1 TX1 11, w ∈ wsX2_joinQueue := by decide +kernel
  have hiX2 : ∀ w ∈ u_ws RX2 TX2 6, w ∈ wsX2_joinQueue := by decide +kernel
  refine lv_aload_n hx hb dX2_joinQueue_0 rfl (lv_at hl 1 rfl) ?_
  refine lv_iload_n hx hb dX2_joinQueue_1 rfl (lv_at hl 2 rfl) ?_
  refine fk_putT (v := a) hx hb hts hiX1 hown hK hP hD hS ht 3 (by decide) (by decide) (by simp [fk_fT, fk_up]) (List.mem_of_getElem? (i := 1) rfl) rfl rfl (by decide +kernel) dX2_joinQueue_2 (fun H locs hP hD hS => ?_)
  refine lv_aload_n hx hb dX2_joinQueue_5 rfl (lv_at hl 0 rfl) ?_
  refine lv_dup hx hb dX2_joinQueue_6 rfl ?_
  refine fk_getK hx hb hts hiX2 hown hK hP 5 (by decide) (v := .int (S 12 3)) (by simp [fk_fK, fk_up]) (List.mem_of_getElem? (i := 2) rfl) rfl dX2_joinQueue_7 ?_
  refine lv_iconst (v := 1) hx hb dX2_joinQueue_10 (by decide) ?_
  refine lv_iadd hx hb dX2_joinQueue_11 ?_
  refine fk_putK (v := ((S 12 3) + 1)) hx hb hts hiX2 hown hK hP hD hS 3 (by decide) (by simp [fk_fK, fk_up]) (List.mem_of_getElem? (i := 2) rfl) rfl rfl (by decide +kernel) dX2_joinQueue_12 (fun H locs hP hD hS => ?_)
  refine lv_aload_n hx hb dX2_joinQueue_15 rfl (lv_at hl 1 rfl) ?_
  refine lv_aload_n hx hb dX2_joinQueue_16 rfl (lv_at hl 0 rfl) ?_
  refine fk_getK hx hb hts hiX2 hown hK hP 5 (by decide) (v := .int ((S 12 3) + 1)) (by simp [fk_fK, fk_up]) (List.mem_of_getElem? (i := 2) rfl) rfl dX2_joinQueue_17 ?_
  refine fk_putT (v := ((S 12 3) + 1)) hx hb hts hiX1 hown hK hP hD hS ht 7 (by decide) (by decide) (by simp [fk_fT, fk_up]) (List.mem_of_getElem? (i := 3) rfl) rfl rfl (by decide +kernel) dX2_joinQueue_20 (fun H locs hP hD hS => ?_)
  exact fk_vret hx hb hr hlocks hP hK hD hS (congrArg (fun z => fk_kW ad cI cT z ++ X) (by first | rfl | simp [kk_join])) (by rfl) dX2_joinQueue_23

abbrev rmX0_clear : Room := { frames := 0, cells := 0, slots := 0, locals := 0 }
set_option maxHeartbeats 4000000 in
set_option maxRecDepth 100000 in
theorem kc_clear (l : Launch) (D : va_G) (ad : Nat → Nat) (cI cT cJ : ClassId) (X : va_W) (S : fk_S) (t : Nat) (ht : t < 8) : fk_C l D (fk_ty cI cT cJ) yX0_clear wsX0_clear rmX0_clear [.ref (ad (11 + t))] (fk_kW ad cI cT S ++ X) none (fk_kW ad cI cT (fk_up S 10 t 0) ++ X) := by
  refine fk_C_of (cc := cX0_clear) (maxL := 1) (ret := none) (own := RX0) (by decide) rfl rfl (Nat.le_of_ble_eq_true rfl) ?_
  intro p e s m below meth c A ls hx hb hr hlocks hml hts hown hA hP hK hD hl
  have hS : va_S A s.heap s.heap [] := va_S.rf
  have hl : lv_has ls 1 [(0, .ref (ad (11 + t)))] := hl
  have hiX0 : ∀ w ∈ u_ws RX0 TX0 2, w ∈ wsX0_clear := by decide +kernel
  refine lv_aload_n hx hb dX0_clear_0 rfl (lv_at hl 0 rfl) ?_
  refine lv_iconst (v := 0) hx hb dX0_clear_1 (by decide) ?_
  refine fk_putL (v := 0) hx hb hts hiX0 hown hK hP hD hS ht (List.mem_of_getElem? (i := 1) rfl) dX0_clear_2 (fun H locs hP hD hS => ?_)
  exact fk_vret hx hb hr hlocks hP hK hD hS (congrArg (fun z => fk_kW ad cI cT z ++ X) (by first | rfl | simp [])) (by rfl) dX0_clear_5
end
section
abbrev rmX0_placeOf : Room := { frames := 0, cells := 0, slots := 0, locals := 0 }
set_option maxHeartbeats 4000000 in
set_option maxRecDepth 100000 in
theorem kc_placeOf (l : Launch) (D : va_G) (ad : Nat → Nat) (cI cT cJ : ClassId) (X : va_W) (S : fk_S) (t k : Nat) (a : Int32) (ht : t < 8) (hk : k ≤ 16) (hs : S 10 t = nI k) : fk_C l D (fk_ty cI cT cJ) yX0_placeOf wsX0_placeOf rmX0_placeOf [.ref (ad (11 + t)), .int a] (fk_kW ad cI cT S ++ X) (some (.int (fk_oI (fk_place S t a)))) (fk_kW ad cI cT S ++ X) := by
  refine fk_C_of (cc := cX0_placeOf) (maxL := 3) (ret := (some .int)) (own := RX0) (by decide) rfl rfl (Nat.le_of_ble_eq_true rfl) ?_
  intro p e s m below meth c A ls hx hb hr hlocks hml hts hown hA hP hK hD hl
  have hS : va_S A s.heap s.heap [] := va_S.rf
  have hl : lv_has ls 3 [(0, .ref (ad (11 + t))), (1, .int a)] := hl
  have hiX0 : ∀ w ∈ u_ws RX0 TX0 2, w ∈ wsX0_placeOf := by decide +kernel
  refine lv_iconst (v := 0) hx hb dX0_placeOf_0 (by decide) ?_
  refine lv_istore_n (lv' := [(2, .int 0), (0, .ref (ad (11 + t))), (1, .int a)]) hx hb dX0_placeOf_1 rfl hl (by decide) rfl (fun ls hl => ?_)
  have loop : ∀ (n : Nat) (i : Nat), i + n = k → fk_find S t a n i = fk_find S t a k 0 → ∀ (H : Heap) (locs : List Loc) (ls : Array Slot), va_P D vwCl (fk_kW ad cI cT S ++ X) H → va_D A (fk_kW ad cI cT S ++ X) → va_S A s.heap H locs → lv_has ls 3 [(2, .int (nI i)), (0, .ref (ad (11 + t))), (1, .int a)] → W p l e rmX0_placeOf s m ([.ref (ad (11 + t)), .int a] : List Value).toArray below meth c H locs 0 0 (fk_Q below D (fk_ty cI cT cJ) [.ref (ad (11 + t)), .int a] s A (fk_kW ad cI cT S ++ X) (some (.int (fk_oI (fk_place S t a))))) (F0 m 2 ls []) := by
    intro n
    induction n with
    | zero =>
      intro i hi hR H locs ls hP hD hS hl
      refine lv_iload_n hx hb dX0_placeOf_2 rfl (lv_at hl 0 rfl) ?_
      refine lv_aload_n hx hb dX0_placeOf_3 rfl (lv_at hl 1 rfl) ?_
      refine fk_getL hx hb hts hiX0 hown hK hP ht 1 (by decide) (v := .int (S 10 t)) rfl (List.mem_of_getElem? (i := 1) rfl) rfl dX0_placeOf_4 ?_
      refine lv_icmp_ge (tgt := 28) hx hb dX0_placeOf_7 (by decide) (fun c_1 => ?_) (fun c_1 => absurd (by rw [hs]; exact nI_le (a := k) (b := i) (by omega) (by omega)) c_1)
      refine lv_iconst (v := (-1)) hx hb dX0_placeOf_28 (by decide) ?_
      exact fk_iret hx hb hr hlocks hP hK hD hS (congrArg (fun z => fk_kW ad cI cT z ++ X) (by first | rfl | simp [c_1])) (by simp only [fk_place, hs, nI_clamp (n := k) (by omega), ← hR]; rfl) dX0_placeOf_29
    | succ n ih =>
      intro i hi hR H locs ls hP hD hS hl
      refine lv_iload_n hx hb dX0_placeOf_2 rfl (lv_at hl 0 rfl) ?_
      refine lv_aload_n hx hb dX0_placeOf_3 rfl (lv_at hl 1 rfl) ?_
      refine fk_getL hx hb hts hiX0 hown hK hP ht 1 (by decide) (v := .int (S 10 t)) rfl (List.mem_of_getElem? (i := 1) rfl) rfl dX0_placeOf_4 ?_
      refine lv_icmp_ge (tgt := 28) hx hb dX0_placeOf_7 (by decide) (fun c_2 => absurd c_2 (by rw [hs]; exact nI_ge (a := i) (b := k) (by omega) (by omega))) (fun c_2 => ?_)
      refine lv_aload_n hx hb dX0_placeOf_10 rfl (lv_at hl 1 rfl) ?_
      refine fk_getL hx hb hts hiX0 hown hK hP ht 0 (by decide) (v := .ref (ad (19 + t))) rfl (List.mem_of_getElem? (i := 2) rfl) rfl dX0_placeOf_11 ?_
      refine lv_iload_n hx hb dX0_placeOf_14 rfl (lv_at hl 0 rfl) ?_
      refine fk_ldR hx hb hK hP ht (vp_in_nI (show i < 16 from (show i < 16 by omega)) (by decide)) dX0_placeOf_15 ?_
      refine W.eq (g2 := F0 m 16 ls [.int (S 11 (16 * t + i))]) (by rw [nI_clamp (by omega)]) ?_
      refine lv_iload_n hx hb dX0_placeOf_16 rfl (lv_at hl 2 rfl) ?_
      refine lv_icmp_ne (tgt := 22) hx hb dX0_placeOf_17 (by decide) (fun c_3 => ?_) (fun c_3 => ?_)
      · refine lv_iinc (v := (nI (i + 1))) (lv' := [(2, .int (nI (i + 1))), (0, .ref (ad (11 + t))), (1, .int a)]) hx hb dX0_placeOf_22 hl (k := 0) rfl (nI_1 i) (by decide) rfl (fun ls hl => ?_)
        refine lv_goto (tgt := 2) hx hb dX0_placeOf_25 (by decide) ?_
        exact ih (i + 1) (by omega) (by rw [← hR]; simp [fk_find, c_3]) _ _ _ hP hD hS (lv_sub hl [0, 1, 2] rfl)
      · refine lv_iload_n hx hb dX0_placeOf_20 rfl (lv_at hl 0 rfl) ?_
        exact fk_iret hx hb hr hlocks hP hK hD hS (congrArg (fun z => fk_kW ad cI cT z ++ X) (by first | rfl | simp [c_2, c_3])) (by simp only [fk_place, hs, nI_clamp (n := k) (by omega), ← hR]; simp [fk_find, fk_oI, c_3]) dX0_placeOf_21
  exact loop k 0 (by omega) rfl _ _ _ hP hD hS (lv_sub hl [0, 1, 2] rfl)

abbrev rmX0_addressAt : Room := { frames := 0, cells := 0, slots := 0, locals := 0 }
set_option maxHeartbeats 4000000 in
set_option maxRecDepth 100000 in
theorem kc_addressAt (l : Launch) (D : va_G) (ad : Nat → Nat) (cI cT cJ : ClassId) (X : va_W) (S : fk_S) (t : Nat) (q : Int32) (ht : t < 8) (hsz : fk_sz S) : fk_C l D (fk_ty cI cT cJ) yX0_addressAt wsX0_addressAt rmX0_addressAt [.ref (ad (11 + t)), .int q] (fk_kW ad cI cT S ++ X) (some (.int (kk_addrAt S t q))) (fk_kW ad cI cT S ++ X) := by
  refine fk_C_of (cc := cX0_addressAt) (maxL := 2) (ret := (some .int)) (own := RX0) (by decide) rfl rfl (Nat.le_of_ble_eq_true rfl) ?_
  intro p e s m below meth c A ls hx hb hr hlocks hml hts hown hA hP hK hD hl
  have hS : va_S A s.heap s.heap [] := va_S.rf
  have hl : lv_has ls 2 [(0, .ref (ad (11 + t))), (1, .int q)] := hl
  have hiX0 : ∀ w ∈ u_ws RX0 TX0 2, w ∈ wsX0_addressAt := by decide +kernel
  obtain ⟨k, hk, hs⟩ := hsz t ht
  refine lv_iload_n hx hb dX0_addressAt_0 rfl (lv_at hl 1 rfl) ?_
  refine lv_if_lt (tgt := 21) hx hb dX0_addressAt_1 (by decide) (fun c_1 => ?_) (fun c_1 => ?_)
  · refine lv_iconst (v := (-1)) hx hb dX0_addressAt_21 (by decide) ?_
    exact fk_iret hx hb hr hlocks hP hK hD hS (congrArg (fun z => fk_kW ad cI cT z ++ X) (by first | rfl | simp [c_1, Int32.not_le.mpr c_1])) (by first | rfl | simp [kk_addrAt, c_1, Int32.not_le.mpr c_1]) dX0_addressAt_22
  · refine lv_iload_n hx hb dX0_addressAt_4 rfl (lv_at hl 1 rfl) ?_
    refine lv_aload_n hx hb dX0_addressAt_5 rfl (lv_at hl 0 rfl) ?_
    refine fk_getL hx hb hts hiX0 hown hK hP ht 1 (by decide) (v := .int (S 10 t)) rfl (List.mem_of_getElem? (i := 1) rfl) rfl dX0_addressAt_6 ?_
    refine lv_icmp_ge (tgt := 21) hx hb dX0_addressAt_9 (by decide) (fun c_2 => ?_) (fun c_2 => ?_)
    · refine lv_iconst (v := (-1)) hx hb dX0_addressAt_21 (by decide) ?_
      exact fk_iret hx hb hr hlocks hP hK hD hS (congrArg (fun z => fk_kW ad cI cT z ++ X) (by first | rfl | simp [c_1, Int32.not_lt.mp c_1, c_2, Int32.not_lt.mpr c_2])) (by first | rfl | simp [kk_addrAt, c_1, Int32.not_lt.mp c_1, c_2, Int32.not_lt.mpr c_2]) dX0_addressAt_22
    · refine lv_aload_n hx hb dX0_addressAt_12 rfl (lv_at hl 0 rfl) ?_
      refine fk_getL hx hb hts hiX0 hown hK hP ht 0 (by decide) (v := .ref (ad (19 + t))) rfl (List.mem_of_getElem? (i := 2) rfl) rfl dX0_addressAt_13 ?_
      refine lv_iload_n hx hb dX0_addressAt_16 rfl (lv_at hl 1 rfl) ?_
      refine fk_ldR hx hb hK hP ht (fk_in_of (n := 16) (by decide) (Int32.not_lt.mp c_1) (by have h9 := Int32.not_le.mp c_2; rw [hs] at h9; exact Int32.lt_of_lt_of_le h9 (nI_le (b := 16) hk (by decide)))) dX0_addressAt_17 ?_
      refine lv_goto (tgt := 22) hx hb dX0_addressAt_18 (by decide) ?_
      exact fk_iret hx hb hr hlocks hP hK hD hS (congrArg (fun z => fk_kW ad cI cT z ++ X) (by first | rfl | simp [c_1, Int32.not_lt.mp c_1, c_2, Int32.not_le.mp c_2])) (by first | rfl | simp [kk_addrAt, c_1, Int32.not_lt.mp c_1, c_2, Int32.not_le.mp c_2]) dX0_addressAt_22

abbrev rmX0_add : Room := { frames := 1, cells := 0, slots := 0, locals := 22 }
set_option maxHeartbeats 4000000 in
set_option maxRecDepth 100000 in
theorem kc_add (l : Launch) (D : va_G) (ad : Nat → Nat) (cI cT cJ : ClassId) (X : va_W) (S : fk_S) (t : Nat) (a : Int32) (ht : t < 8) (hsz : fk_sz S) : fk_C l D (fk_ty cI cT cJ) yX0_add wsX0_add rmX0_add [.ref (ad (11 + t)), .int a] (fk_kW ad cI cT S ++ X) none (fk_kW ad cI cT (kk_add S t a) ++ X) := by
  refine fk_C_of (cc := cX0_add) (maxL := 2) (ret := none) (own := RX0) (by decide) rfl rfl (Nat.le_of_ble_eq_true rfl) ?_
  intro p e s m below meth c A ls hx hb hr hlocks hml hts hown hA hP hK hD hl
  have hS : va_S A s.heap s.heap [] := va_S.rf
  have hl : lv_has ls 2 [(0, .ref (ad (11 + t))), (1, .int a)] := hl
  have hiX0 : ∀ w ∈ u_ws RX0 TX0 2, w ∈ wsX0_add := by decide +kernel
  obtain ⟨k, hk, hs⟩ := hsz t ht
  refine lv_aload_n hx hb dX0_add_0 rfl (lv_at hl 0 rfl) ?_
  refine lv_iload_n hx hb dX0_add_1 rfl (lv_at hl 1 rfl) ?_
  refine fk_callV (As := [.int a]) (rest := []) ⟨hx, hb, hml, hown, hts⟩ (kc_placeOf l D ad cI cT cJ X S t k a ht hk hs) (cwV 1 hts gX0_add_X0_placeOf rfl rfl rfl (by decide +kernel) ⟨Nat.le_of_ble_eq_true rfl, Nat.le_of_ble_eq_true rfl⟩) (fk_rvL hK hP ht) hK hP hD hS hA rfl hl.1 rfl (Nat.le_of_ble_eq_true rfl) dX0_add_2 ⟨Nat.le_of_ble_eq_true rfl, Nat.le_of_ble_eq_true rfl⟩ (fun H locs hP hD hS => ?_)
  rcases o_1 : fk_place S t a with _ | u2
  · refine W.eq (g2 := F0 m 5 ls [.int (-1)]) (by first | rfl | (rw [o_1]; rfl)) ?_
    refine lv_iconst (v := (-1)) hx hb dX0_add_5 (by decide) ?_
    refine lv_icmp_ne (tgt := 38) hx hb dX0_add_6 (by decide) (fun c => absurd c (by decide)) (fun _ => ?_)
    refine lv_aload_n hx hb dX0_add_9 rfl (lv_at hl 0 rfl) ?_
    refine fk_getL hx hb hts hiX0 hown hK hP ht 1 (by decide) (v := .int (S 10 t)) rfl (List.mem_of_getElem? (i := 1) rfl) rfl dX0_add_10 ?_
    refine lv_bipush (v := 16) hx hb dX0_add_13 (by decide) ?_
    refine lv_icmp_ge (tgt := 38) hx hb dX0_add_15 (by decide) (fun c_4 => ?_) (fun c_4 => ?_)
    · exact fk_vret hx hb hr hlocks hP hK hD hS (congrArg (fun z => fk_kW ad cI cT z ++ X) (by first | rfl | simp [kk_add, o_1, c_4, Int32.not_lt.mpr c_4])) (by rfl) dX0_add_38
    · refine lv_aload_n hx hb dX0_add_18 rfl (lv_at hl 0 rfl) ?_
      refine fk_getL hx hb hts hiX0 hown hK hP ht 0 (by decide) (v := .ref (ad (19 + t))) rfl (List.mem_of_getElem? (i := 2) rfl) rfl dX0_add_19 ?_
      refine lv_aload_n hx hb dX0_add_22 rfl (lv_at hl 0 rfl) ?_
      refine fk_getL hx hb hts hiX0 hown hK hP ht 1 (by decide) (v := .int (S 10 t)) rfl (List.mem_of_getElem? (i := 1) rfl) rfl dX0_add_23 ?_
      refine lv_iload_n hx hb dX0_add_26 rfl (lv_at hl 1 rfl) ?_
      refine fk_stR hx hb hK hP hD hS ht (by have h9 := Int32.not_le.mp c_4; rw [hs] at h9 ⊢; exact vp_in_nI ((nI_ltI (b := 16) (by omega) (by decide)).mp h9) (by decide)) dX0_add_27 (fun H locs hP hD hS => ?_)
      refine lv_aload_n hx hb dX0_add_28 rfl (lv_at hl 0 rfl) ?_
      refine lv_dup hx hb dX0_add_29 rfl ?_
      refine fk_getL hx hb hts hiX0 hown hK hP ht 1 (by decide) (v := .int (S 10 t)) (by simp [fk_fL, fk_up]) (List.mem_of_getElem? (i := 1) rfl) rfl dX0_add_30 ?_
      refine lv_iconst (v := 1) hx hb dX0_add_33 (by decide) ?_
      refine lv_iadd hx hb dX0_add_34 ?_
      refine fk_putL (v := ((S 10 t) + 1)) hx hb hts hiX0 hown hK hP hD hS ht (List.mem_of_getElem? (i := 1) rfl) dX0_add_35 (fun H locs hP hD hS => ?_)
      exact fk_vret hx hb hr hlocks hP hK hD hS (congrArg (fun z => fk_kW ad cI cT z ++ X) (by first | rfl | simp [kk_add, o_1, c_4, Int32.not_le.mp c_4])) (by rfl) dX0_add_38
  · have hu_5 : u2 < k := fk_place_lt hk hs o_1
    refine W.eq (g2 := F0 m 5 ls [.int (nI u2)]) (by first | rfl | (rw [o_1]; rfl)) ?_
    refine lv_iconst (v := (-1)) hx hb dX0_add_5 (by decide) ?_
    refine lv_icmp_ne (tgt := 38) hx hb dX0_add_6 (by decide) (fun _ => ?_) (fun c => absurd c (fk_nI_m1 (by omega)))
    exact fk_vret hx hb hr hlocks hP hK hD hS (congrArg (fun z => fk_kW ad cI cT z ++ X) (by first | rfl | simp [kk_add, o_1])) (by rfl) dX0_add_38

abbrev rmX0_drop : Room := { frames := 1, cells := 0, slots := 0, locals := 22 }
set_option maxHeartbeats 4000000 in
set_option maxRecDepth 100000 in
theorem kc_drop (l : Launch) (D : va_G) (ad : Nat → Nat) (cI cT cJ : ClassId) (X : va_W) (S : fk_S) (t : Nat) (a : Int32) (ht : t < 8) (hsz : fk_sz S) : fk_C l D (fk_ty cI cT cJ) yX0_drop wsX0_drop rmX0_drop [.ref (ad (11 + t)), .int a] (fk_kW ad cI cT S ++ X) none (fk_kW ad cI cT (kk_drop S t a) ++ X) := by
  refine fk_C_of (cc := cX0_drop) (maxL := 4) (ret := none) (own := RX0) (by decide) rfl rfl (Nat.le_of_ble_eq_true rfl) ?_
  intro p e s m below meth c A ls hx hb hr hlocks hml hts hown hA hP hK hD hl
  have hS : va_S A s.heap s.heap [] := va_S.rf
  have hl : lv_has ls 4 [(0, .ref (ad (11 + t))), (1, .int a)] := hl
  have hiX0 : ∀ w ∈ u_ws RX0 TX0 2, w ∈ wsX0_drop := by decide +kernel
  obtain ⟨k, hk, hs⟩ := hsz t ht
  refine lv_aload_n hx hb dX0_drop_0 rfl (lv_at hl 0 rfl) ?_
  refine lv_iload_n hx hb dX0_drop_1 rfl (lv_at hl 1 rfl) ?_
  refine fk_callV (As := [.int a]) (rest := []) ⟨hx, hb, hml, hown, hts⟩ (kc_placeOf l D ad cI cT cJ X S t k a ht hk hs) (cwV 1 hts gX0_drop_X0_placeOf rfl rfl rfl (by decide +kernel) ⟨Nat.le_of_ble_eq_true rfl, Nat.le_of_ble_eq_true rfl⟩) (fk_rvL hK hP ht) hK hP hD hS hA rfl hl.1 rfl (Nat.le_of_ble_eq_true rfl) dX0_drop_2 ⟨Nat.le_of_ble_eq_true rfl, Nat.le_of_ble_eq_true rfl⟩ (fun H locs hP hD hS => ?_)
  rcases o_1 : fk_place S t a with _ | u2
  · refine W.eq (g2 := F0 m 5 ls [.int (-1)]) (by first | rfl | (rw [o_1]; rfl)) ?_
    refine lv_istore_n (lv' := [(2, .int (-1)), (0, .ref (ad (11 + t))), (1, .int a)]) hx hb dX0_drop_5 rfl hl (by decide) rfl (fun ls hl => ?_)
    refine lv_iload_n hx hb dX0_drop_6 rfl (lv_at hl 0 rfl) ?_
    refine lv_iconst (v := (-1)) hx hb dX0_drop_7 (by decide) ?_
    refine lv_icmp_eq (tgt := 53) hx hb dX0_drop_8 (by decide) (fun _ => ?_) (fun c => absurd c (by decide))
    exact fk_vret hx hb hr hlocks hP hK hD hS (congrArg (fun z => fk_kW ad cI cT z ++ X) (by first | rfl | simp [kk_drop, o_1])) (by rfl) dX0_drop_53
  · have hu_4 : u2 < k := fk_place_lt hk hs o_1
    refine W.eq (g2 := F0 m 5 ls [.int (nI u2)]) (by first | rfl | (rw [o_1]; rfl)) ?_
    refine lv_istore_n (lv' := [(2, .int (nI u2)), (0, .ref (ad (11 + t))), (1, .int a)]) hx hb dX0_drop_5 rfl hl (by decide) rfl (fun ls hl => ?_)
    refine lv_iload_n hx hb dX0_drop_6 rfl (lv_at hl 0 rfl) ?_
    refine lv_iconst (v := (-1)) hx hb dX0_drop_7 (by decide) ?_
    refine lv_icmp_eq (tgt := 53) hx hb dX0_drop_8 (by decide) (fun c => absurd c (fk_nI_m1 (by omega))) (fun _ => ?_)
    refine lv_iload_n hx hb dX0_drop_11 rfl (lv_at hl 0 rfl) ?_
    refine lv_iconst (v := 1) hx hb dX0_drop_12 (by decide) ?_
    refine lv_iadd hx hb dX0_drop_13 ?_
    refine W.eq (g2 := F0 m 14 ls [.int (nI (u2 + 1))]) (by rw [nI_1]) ?_
    refine lv_istore_n (lv' := [(3, .int (nI (u2 + 1))), (2, .int (nI u2)), (0, .ref (ad (11 + t))), (1, .int a)]) hx hb dX0_drop_14 rfl hl (by decide) rfl (fun ls hl => ?_)
    have loop : ∀ (n : Nat) (i : Nat) (S1 : fk_S), (i + 1) + n = k → S1 10 t = nI k → fk_shift t n i S1 = fk_shift t (k - (u2 + 1)) u2 S → ∀ (H : Heap) (locs : List Loc) (ls : Array Slot), va_P D vwCl (fk_kW ad cI cT S1 ++ X) H → va_D A (fk_kW ad cI cT S1 ++ X) → va_S A s.heap H locs → lv_has ls 4 [(3, .int (nI (i + 1))), (2, .int (nI u2)), (0, .ref (ad (11 + t))), (1, .int a)] → W p l e rmX0_drop s m ([.ref (ad (11 + t)), .int a] : List Value).toArray below meth c H locs 0 0 (fk_Q below D (fk_ty cI cT cJ) [.ref (ad (11 + t)), .int a] s A (fk_kW ad cI cT (kk_drop S t a) ++ X) none) (F0 m 15 ls []) := by
      intro n
      induction n with
      | zero =>
        intro i S1 hi hs1 hR H locs ls hP hD hS hl
        refine lv_iload_n hx hb dX0_drop_15 rfl (lv_at hl 0 rfl) ?_
        refine lv_aload_n hx hb dX0_drop_16 rfl (lv_at hl 2 rfl) ?_
        refine fk_getL hx hb hts hiX0 hown hK hP ht 1 (by decide) (v := .int (S1 10 t)) rfl (List.mem_of_getElem? (i := 1) rfl) rfl dX0_drop_17 ?_
        refine lv_icmp_ge (tgt := 43) hx hb dX0_drop_20 (by decide) (fun c_5 => ?_) (fun c_5 => absurd (by rw [hs1]; exact nI_le (a := k) (b := i + 1) (by omega) (by omega)) c_5)
        refine lv_aload_n hx hb dX0_drop_43 rfl (lv_at hl 2 rfl) ?_
        refine lv_dup hx hb dX0_drop_44 rfl ?_
        refine fk_getL hx hb hts hiX0 hown hK hP ht 1 (by decide) (v := .int (S1 10 t)) rfl (List.mem_of_getElem? (i := 1) rfl) rfl dX0_drop_45 ?_
        refine lv_iconst (v := 1) hx hb dX0_drop_48 (by decide) ?_
        refine lv_isub hx hb dX0_drop_49 ?_
        refine fk_putL (v := ((S1 10 t) - 1)) hx hb hts hiX0 hown hK hP hD hS ht (List.mem_of_getElem? (i := 1) rfl) dX0_drop_50 (fun H locs hP hD hS => ?_)
        exact fk_vret hx hb hr hlocks hP hK hD hS (congrArg (fun z => fk_kW ad cI cT z ++ X) (by simp only [kk_drop, o_1, hs, nI_clamp (n := k) (show k < 2 ^ 31 by omega), ← hR, hs1]; rfl)) (by rfl) dX0_drop_53
      | succ n ih =>
        intro i S1 hi hs1 hR H locs ls hP hD hS hl
        refine lv_iload_n hx hb dX0_drop_15 rfl (lv_at hl 0 rfl) ?_
        refine lv_aload_n hx hb dX0_drop_16 rfl (lv_at hl 2 rfl) ?_
        refine fk_getL hx hb hts hiX0 hown hK hP ht 1 (by decide) (v := .int (S1 10 t)) rfl (List.mem_of_getElem? (i := 1) rfl) rfl dX0_drop_17 ?_
        refine lv_icmp_ge (tgt := 43) hx hb dX0_drop_20 (by decide) (fun c_6 => absurd c_6 (by rw [hs1]; exact nI_ge (a := i + 1) (b := k) (by omega) (by omega))) (fun c_6 => ?_)
        refine lv_aload_n hx hb dX0_drop_23 rfl (lv_at hl 2 rfl) ?_
        refine fk_getL hx hb hts hiX0 hown hK hP ht 0 (by decide) (v := .ref (ad (19 + t))) rfl (List.mem_of_getElem? (i := 2) rfl) rfl dX0_drop_24 ?_
        refine lv_iload_n hx hb dX0_drop_27 rfl (lv_at hl 0 rfl) ?_
        refine lv_iconst (v := 1) hx hb dX0_drop_28 (by decide) ?_
        refine lv_isub hx hb dX0_drop_29 ?_
        refine W.eq (g2 := F0 m 30 ls [.int (nI i), .ref (ad (19 + t))]) (by rw [nI_pred]) ?_
        refine lv_aload_n hx hb dX0_drop_30 rfl (lv_at hl 2 rfl) ?_
        refine fk_getL hx hb hts hiX0 hown hK hP ht 0 (by decide) (v := .ref (ad (19 + t))) rfl (List.mem_of_getElem? (i := 2) rfl) rfl dX0_drop_31 ?_
        refine lv_iload_n hx hb dX0_drop_34 rfl (lv_at hl 0 rfl) ?_
        refine fk_ldR hx hb hK hP ht (vp_in_nI (show i + 1 < 16 from (show i + 1 < 16 by omega)) (by decide)) dX0_drop_35 ?_
        refine W.eq (g2 := F0 m 36 ls [.int (S1 11 (16 * t + (i + 1))), .int (nI i), .ref (ad (19 + t))]) (by rw [nI_clamp (by omega)]) ?_
        refine fk_stR hx hb hK hP hD hS ht (vp_in_nI (show i < 16 from (show i < 16 by omega)) (by decide)) dX0_drop_36 (fun H locs hP hD hS => ?_)
        rw [show ((nI i)).toNatClampNeg = i from nI_clamp (n := i) (by omega)] at hP hD
        refine lv_iinc (v := (nI (i + 1 + 1))) (lv' := [(3, .int (nI (i + 1 + 1))), (2, .int (nI u2)), (0, .ref (ad (11 + t))), (1, .int a)]) hx hb dX0_drop_37 hl (k := 0) rfl (nI_1 (i + 1)) (by decide) rfl (fun ls hl => ?_)
        refine lv_goto (tgt := 15) hx hb dX0_drop_40 (by decide) ?_
        exact ih (i + 1) (fk_up S1 11 (16 * t + i) (S1 11 (16 * t + (i + 1)))) (by omega) (by simp [fk_up]; exact hs1) hR _ _ _ hP hD hS (lv_sub hl [0, 1, 2, 3] rfl)
    exact loop (k - (u2 + 1)) u2 S (by omega) hs rfl _ _ _ hP hD hS (lv_sub hl [0, 1, 2, 3] rfl)
end
section
abbrev rmX2_firstAt : Room := { frames := 1, cells := 0, slots := 0, locals := 21 }
set_option maxHeartbeats 4000000 in
set_option maxRecDepth 100000 in
theorem kc_firstAt (l : Launch) (D : va_G) (ad : Nat → Nat) (cI cT cJ : ClassId) (X : va_W) (S : fk_S) (a st mk : Int32) : fk_C l D (fk_ty cI cT cJ) yX2_firstAt wsX2_firstAt rmX2_firstAt [.ref (ad 0), .int a, .int st, .int mk] (fk_kW ad cI cT S ++ X) (fk_vT ad (kk_first S a st mk)) (fk_kW ad cI cT S ++ X) := by
  refine fk_C_of (cc := cX2_firstAt) (maxL := 10) (ret := (some (.object "FutexKernel$Task"))) (own := RX2) (by decide) rfl rfl (Nat.le_of_ble_eq_true rfl) ?_
  intro p e s m below meth c A ls hx hb hr hlocks hml hts hown hA hP hK hD hl
  have hS : va_S A s.heap s.heap [] := va_S.rf
  have hl : lv_has ls 10 [(0, .ref (ad 0)), (1, .int a), (2, .int st), (3, .int mk)] := hl
  have hiX1 : ∀ w ∈ u_ws RX1 TX1 11, w ∈ wsX2_firstAt := by decide +kernel
  have hiX2 : ∀ w ∈ u_ws RX2 TX2 6, w ∈ wsX2_firstAt := by decide +kernel
  refine lv_null hx hb dX2_firstAt_0 ?_
  refine lv_astoreN (lv' := [(4, .null), (0, .ref (ad 0)), (1, .int a), (2, .int st), (3, .int mk)]) hx hb dX2_firstAt_1 hl (by decide) rfl (fun ls hl => ?_)
  refine lv_aload_n hx hb dX2_firstAt_3 rfl (lv_at hl 1 rfl) ?_
  refine fk_getK hx hb hts hiX2 hown hK hP 1 (by decide) (v := .ref (ad 2)) rfl (List.mem_of_getElem? (i := 1) rfl) rfl dX2_firstAt_4 ?_
  refine lv_astore (lv' := [(5, .ref (ad 2)), (4, .null), (0, .ref (ad 0)), (1, .int a), (2, .int st), (3, .int mk)]) hx hb dX2_firstAt_7 hl (by decide) rfl (fun ls hl => ?_)
  refine lv_aload hx hb dX2_firstAt_9 (lv_at hl 0 rfl) ?_
  refine fk_lenA hx hb hK hP dX2_firstAt_11 ?_
  refine lv_istore (lv' := [(6, .int 8), (5, .ref (ad 2)), (4, .null), (0, .ref (ad 0)), (1, .int a), (2, .int st), (3, .int mk)]) hx hb dX2_firstAt_12 hl (by decide) rfl (fun ls hl => ?_)
  refine lv_iconst (v := 0) hx hb dX2_firstAt_14 (by decide) ?_
  refine lv_istore (lv' := [(7, .int 0), (6, .int 8), (5, .ref (ad 2)), (4, .null), (0, .ref (ad 0)), (1, .int a), (2, .int st), (3, .int mk)]) hx hb dX2_firstAt_15 hl (by decide) rfl (fun ls hl => ?_)
  have loop : ∀ (n : Nat) (i : Nat) (x : Option Nat), i + n = 8 → (∀ u, x = some u → u < 8) → fk_lp (fk_bb (kk_fits S a st mk) (kk_ahead S)) n i x = kk_first S a st mk → ∀ (H : Heap) (locs : List Loc) (ls : Array Slot), va_P D vwCl (fk_kW ad cI cT S ++ X) H → va_D A (fk_kW ad cI cT S ++ X) → va_S A s.heap H locs → lv_has ls 10 [(4, (match x with | none => Value.null | some t9 => Value.ref (ad (3 + t9)))), (0, .ref (ad 0)), (1, .int a), (2, .int st), (3, .int mk), (5, .ref (ad 2)), (6, .int 8), (7, .int (nI i))] → W p l e rmX2_firstAt s m ([.ref (ad 0), .int a, .int st, .int mk] : List Value).toArray below meth c H locs 0 0 (fk_Q below D (fk_ty cI cT cJ) [.ref (ad 0), .int a, .int st, .int mk] s A (fk_kW ad cI cT S ++ X) (fk_vT ad (kk_first S a st mk))) (F0 m 17 ls []) := by
    intro n
    induction n with
    | zero =>
      intro i x hi hx9 hR H locs ls hP hD hS hl
      rcases x with _ | u
      · have hl : lv_has ls 10 [(4, .null), (0, .ref (ad 0)), (1, .int a), (2, .int st), (3, .int mk), (5, .ref (ad 2)), (6, .int 8), (7, .int (nI i))] := hl
        refine lv_iload hx hb dX2_firstAt_17 (lv_at hl 7 rfl) ?_
        refine lv_iload hx hb dX2_firstAt_19 (lv_at hl 6 rfl) ?_
        refine lv_icmp_ge (tgt := 96) hx hb dX2_firstAt_21 (by decide) (fun c_1 => ?_) (fun c_1 => absurd (nI_le (a := 8) (b := i) (by omega) (by omega)) c_1)
        refine lv_aloadN hx hb dX2_firstAt_96 (lv_at hl 0 rfl) ?_
        exact fk_aret hx hb hr (Or.inl ⟨_, rfl⟩) (Or.inl rfl) hlocks hP hK hD hS (congrArg (fun z => fk_kW ad cI cT z ++ X) (by first | rfl | simp [c_1])) (by rw [← hR]; rfl) dX2_firstAt_98
      · have hl : lv_has ls 10 [(4, .ref (ad (3 + u))), (0, .ref (ad 0)), (1, .int a), (2, .int st), (3, .int mk), (5, .ref (ad 2)), (6, .int 8), (7, .int (nI i))] := hl
        have hu : u < 8 := hx9 u rfl
        refine lv_iload hx hb dX2_firstAt_17 (lv_at hl 7 rfl) ?_
        refine lv_iload hx hb dX2_firstAt_19 (lv_at hl 6 rfl) ?_
        refine lv_icmp_ge (tgt := 96) hx hb dX2_firstAt_21 (by decide) (fun c_2 => ?_) (fun c_2 => absurd (nI_le (a := 8) (b := i) (by omega) (by omega)) c_2)
        refine lv_aload hx hb dX2_firstAt_96 (lv_at hl 0 rfl) ?_
        exact fk_aret hx hb hr (Or.inl ⟨_, rfl⟩) (Or.inr ⟨_, rfl⟩) hlocks hP hK hD hS (congrArg (fun z => fk_kW ad cI cT z ++ X) (by first | rfl | simp [c_2])) (by rw [← hR]; rfl) dX2_firstAt_98
    | succ n ih =>
      intro i x hi hx9 hR H locs ls hP hD hS hl
      rcases x with _ | u
      · have hl : lv_has ls 10 [(4, .null), (0, .ref (ad 0)), (1, .int a), (2, .int st), (3, .int mk), (5, .ref (ad 2)), (6, .int 8), (7, .int (nI i))] := hl
        refine lv_iload hx hb dX2_firstAt_17 (lv_at hl 7 rfl) ?_
        refine lv_iload hx hb dX2_firstAt_19 (lv_at hl 6 rfl) ?_
        refine lv_icmp_ge (tgt := 96) hx hb dX2_firstAt_21 (by decide) (fun c_3 => absurd c_3 (nI_ge (a := i) (b := 8) (by omega) (by omega))) (fun c_3 => ?_)
        refine lv_aload hx hb dX2_firstAt_24 (lv_at hl 5 rfl) ?_
        refine lv_iload hx hb dX2_firstAt_26 (lv_at hl 7 rfl) ?_
        refine fk_ldA hx hb hK hP (vp_in_nI (show i < 8 from (by omega)) (by decide)) dX2_firstAt_28 ?_
        refine W.eq (g2 := F0 m 29 ls [.ref (ad (3 + i))]) (by rw [nI_clamp (by omega)]) ?_
        refine lv_astore (lv' := [(8, .ref (ad (3 + i))), (4, .null), (0, .ref (ad 0)), (1, .int a), (2, .int st), (3, .int mk), (5, .ref (ad 2)), (6, .int 8), (7, .int (nI i))]) hx hb dX2_firstAt_29 hl (by decide) rfl (fun ls hl => ?_)
        refine lv_aload hx hb dX2_firstAt_31 (lv_at hl 0 rfl) ?_
        refine fk_getT hx hb hts hiX1 hown hK hP (by omega) 4 (by decide) (v := .int (S 3 i)) rfl (List.mem_of_getElem? (i := 2) rfl) rfl dX2_firstAt_33 ?_
        refine lv_iload_n hx hb dX2_firstAt_36 rfl (lv_at hl 3 rfl) ?_
        refine lv_icmp_ne (tgt := 63) hx hb dX2_firstAt_37 (by decide) (fun c_4 => ?_) (fun c_4 => ?_)
        · refine lv_iconst (v := 0) hx hb dX2_firstAt_63 (by decide) ?_
          refine lv_istore (lv' := [(9, .int 0), (8, .ref (ad (3 + i))), (4, .null), (0, .ref (ad 0)), (1, .int a), (2, .int st), (3, .int mk), (5, .ref (ad 2)), (6, .int 8), (7, .int (nI i))]) hx hb dX2_firstAt_64 hl (by decide) rfl (fun ls hl => ?_)
          refine lv_iload hx hb dX2_firstAt_66 (lv_at hl 0 rfl) ?_
          refine lv_if_eq (tgt := 90) hx hb dX2_firstAt_68 (by decide) (fun _ => ?_) (fun c => absurd c (by decide))
          refine lv_iinc (v := (nI (i + 1))) (lv' := [(7, .int (nI (i + 1))), (9, .int 0), (8, .ref (ad (3 + i))), (4, .null), (0, .ref (ad 0)), (1, .int a), (2, .int st), (3, .int mk), (5, .ref (ad 2)), (6, .int 8)]) hx hb dX2_firstAt_90 hl (k := 9) rfl (nI_1 i) (by decide) rfl (fun ls hl => ?_)
          refine lv_goto (tgt := 17) hx hb dX2_firstAt_93 (by decide) ?_
          exact ih (i + 1) none (by omega) (by intro w hw; cases hw) ((congrArg (fk_lp _ n (i + 1)) (show none = fk_bb (kk_fits S a st mk) (kk_ahead S) i none from by simp [fk_bb, kk_fits, c_4])).trans hR) _ _ _ hP hD hS (lv_sub hl [3, 4, 5, 6, 7, 8, 9, 0] rfl)
        · refine lv_aload hx hb dX2_firstAt_40 (lv_at hl 0 rfl) ?_
          refine fk_getT hx hb hts hiX1 hown hK hP (by omega) 2 (by decide) (v := .int (S 1 i)) rfl (List.mem_of_getElem? (i := 3) rfl) rfl dX2_firstAt_42 ?_
          refine lv_iload_n hx hb dX2_firstAt_45 rfl (lv_at hl 4 rfl) ?_
          refine lv_icmp_ne (tgt := 63) hx hb dX2_firstAt_46 (by decide) (fun c_6 => ?_) (fun c_6 => ?_)
          · refine lv_iconst (v := 0) hx hb dX2_firstAt_63 (by decide) ?_
            refine lv_istore (lv' := [(9, .int 0), (8, .ref (ad (3 + i))), (4, .null), (0, .ref (ad 0)), (1, .int a), (2, .int st), (3, .int mk), (5, .ref (ad 2)), (6, .int 8), (7, .int (nI i))]) hx hb dX2_firstAt_64 hl (by decide) rfl (fun ls hl => ?_)
            refine lv_iload hx hb dX2_firstAt_66 (lv_at hl 0 rfl) ?_
            refine lv_if_eq (tgt := 90) hx hb dX2_firstAt_68 (by decide) (fun _ => ?_) (fun c => absurd c (by decide))
            refine lv_iinc (v := (nI (i + 1))) (lv' := [(7, .int (nI (i + 1))), (9, .int 0), (8, .ref (ad (3 + i))), (4, .null), (0, .ref (ad 0)), (1, .int a), (2, .int st), (3, .int mk), (5, .ref (ad 2)), (6, .int 8)]) hx hb dX2_firstAt_90 hl (k := 9) rfl (nI_1 i) (by decide) rfl (fun ls hl => ?_)
            refine lv_goto (tgt := 17) hx hb dX2_firstAt_93 (by decide) ?_
            exact ih (i + 1) none (by omega) (by intro w hw; cases hw) ((congrArg (fk_lp _ n (i + 1)) (show none = fk_bb (kk_fits S a st mk) (kk_ahead S) i none from by simp [fk_bb, kk_fits, c_4, c_6])).trans hR) _ _ _ hP hD hS (lv_sub hl [3, 4, 5, 6, 7, 8, 9, 0] rfl)
          · refine lv_aload hx hb dX2_firstAt_49 (lv_at hl 0 rfl) ?_
            refine fk_getT hx hb hts hiX1 hown hK hP (by omega) 5 (by decide) (v := .int (S 4 i)) rfl (List.mem_of_getElem? (i := 4) rfl) rfl dX2_firstAt_51 ?_
            refine lv_iload_n hx hb dX2_firstAt_54 rfl (lv_at hl 5 rfl) ?_
            refine lv_iand hx hb dX2_firstAt_55 ?_
            refine lv_if_eq (tgt := 63) hx hb dX2_firstAt_56 (by decide) (fun c_8 => ?_) (fun c_8 => ?_)
            · refine lv_iconst (v := 0) hx hb dX2_firstAt_63 (by decide) ?_
              refine lv_istore (lv' := [(9, .int 0), (8, .ref (ad (3 + i))), (4, .null), (0, .ref (ad 0)), (1, .int a), (2, .int st), (3, .int mk), (5, .ref (ad 2)), (6, .int 8), (7, .int (nI i))]) hx hb dX2_firstAt_64 hl (by decide) rfl (fun ls hl => ?_)
              refine lv_iload hx hb dX2_firstAt_66 (lv_at hl 0 rfl) ?_
              refine lv_if_eq (tgt := 90) hx hb dX2_firstAt_68 (by decide) (fun _ => ?_) (fun c => absurd c (by decide))
              refine lv_iinc (v := (nI (i + 1))) (lv' := [(7, .int (nI (i + 1))), (9, .int 0), (8, .ref (ad (3 + i))), (4, .null), (0, .ref (ad 0)), (1, .int a), (2, .int st), (3, .int mk), (5, .ref (ad 2)), (6, .int 8)]) hx hb dX2_firstAt_90 hl (k := 9) rfl (nI_1 i) (by decide) rfl (fun ls hl => ?_)
              refine lv_goto (tgt := 17) hx hb dX2_firstAt_93 (by decide) ?_
              exact ih (i + 1) none (by omega) (by intro w hw; cases hw) ((congrArg (fk_lp _ n (i + 1)) (show none = fk_bb (kk_fits S a st mk) (kk_ahead S) i none from by simp [fk_bb, kk_fits, c_4, c_6, c_8])).trans hR) _ _ _ hP hD hS (lv_sub hl [3, 4, 5, 6, 7, 8, 9, 0] rfl)
            · refine lv_iconst (v := 1) hx hb dX2_firstAt_59 (by decide) ?_
              refine lv_goto (tgt := 64) hx hb dX2_firstAt_60 (by decide) ?_
              refine lv_istore (lv' := [(9, .int 1), (8, .ref (ad (3 + i))), (4, .null), (0, .ref (ad 0)), (1, .int a), (2, .int st), (3, .int mk), (5, .ref (ad 2)), (6, .int 8), (7, .int (nI i))]) hx hb dX2_firstAt_64 hl (by decide) rfl (fun ls hl => ?_)
              refine lv_iload hx hb dX2_firstAt_66 (lv_at hl 0 rfl) ?_
              refine lv_if_eq (tgt := 90) hx hb dX2_firstAt_68 (by decide) (fun c => absurd c (by decide)) (fun _ => ?_)
              refine lv_aloadN hx hb dX2_firstAt_71 (lv_at hl 2 rfl) ?_
              refine lv_ifnullN (tgt := 86) hx hb dX2_firstAt_73 (by decide) ?_
              refine lv_aload hx hb dX2_firstAt_86 (lv_at hl 1 rfl) ?_
              refine lv_astore (lv' := [(4, .ref (ad (3 + i))), (9, .int 1), (8, .ref (ad (3 + i))), (0, .ref (ad 0)), (1, .int a), (2, .int st), (3, .int mk), (5, .ref (ad 2)), (6, .int 8), (7, .int (nI i))]) hx hb dX2_firstAt_88 hl (by decide) rfl (fun ls hl => ?_)
              refine lv_iinc (v := (nI (i + 1))) (lv' := [(7, .int (nI (i + 1))), (4, .ref (ad (3 + i))), (9, .int 1), (8, .ref (ad (3 + i))), (0, .ref (ad 0)), (1, .int a), (2, .int st), (3, .int mk), (5, .ref (ad 2)), (6, .int 8)]) hx hb dX2_firstAt_90 hl (k := 9) rfl (nI_1 i) (by decide) rfl (fun ls hl => ?_)
              refine lv_goto (tgt := 17) hx hb dX2_firstAt_93 (by decide) ?_
              exact ih (i + 1) (some i) (by omega) (by intro w hw; cases hw; exact (by omega)) ((congrArg (fk_lp _ n (i + 1)) (show (some i) = fk_bb (kk_fits S a st mk) (kk_ahead S) i none from by simp [fk_bb, kk_fits, c_4, c_6, c_8])).trans hR) _ _ _ hP hD hS (lv_sub hl [1, 4, 5, 6, 7, 8, 9, 0] rfl)
      · have hl : lv_has ls 10 [(4, .ref (ad (3 + u))), (0, .ref (ad 0)), (1, .int a), (2, .int st), (3, .int mk), (5, .ref (ad 2)), (6, .int 8), (7, .int (nI i))] := hl
        have hu : u < 8 := hx9 u rfl
        refine lv_iload hx hb dX2_firstAt_17 (lv_at hl 7 rfl) ?_
        refine lv_iload hx hb dX2_firstAt_19 (lv_at hl 6 rfl) ?_
        refine lv_icmp_ge (tgt := 96) hx hb dX2_firstAt_21 (by decide) (fun c_11 => absurd c_11 (nI_ge (a := i) (b := 8) (by omega) (by omega))) (fun c_11 => ?_)
        refine lv_aload hx hb dX2_firstAt_24 (lv_at hl 5 rfl) ?_
        refine lv_iload hx hb dX2_firstAt_26 (lv_at hl 7 rfl) ?_
        refine fk_ldA hx hb hK hP (vp_in_nI (show i < 8 from (by omega)) (by decide)) dX2_firstAt_28 ?_
        refine W.eq (g2 := F0 m 29 ls [.ref (ad (3 + i))]) (by rw [nI_clamp (by omega)]) ?_
        refine lv_astore (lv' := [(8, .ref (ad (3 + i))), (4, .ref (ad (3 + u))), (0, .ref (ad 0)), (1, .int a), (2, .int st), (3, .int mk), (5, .ref (ad 2)), (6, .int 8), (7, .int (nI i))]) hx hb dX2_firstAt_29 hl (by decide) rfl (fun ls hl => ?_)
        refine lv_aload hx hb dX2_firstAt_31 (lv_at hl 0 rfl) ?_
        refine fk_getT hx hb hts hiX1 hown hK hP (by omega) 4 (by decide) (v := .int (S 3 i)) rfl (List.mem_of_getElem? (i := 2) rfl) rfl dX2_firstAt_33 ?_
        refine lv_iload_n hx hb dX2_firstAt_36 rfl (lv_at hl 3 rfl) ?_
        refine lv_icmp_ne (tgt := 63) hx hb dX2_firstAt_37 (by decide) (fun c_12 => ?_) (fun c_12 => ?_)
        · refine lv_iconst (v := 0) hx hb dX2_firstAt_63 (by decide) ?_
          refine lv_istore (lv' := [(9, .int 0), (8, .ref (ad (3 + i))), (4, .ref (ad (3 + u))), (0, .ref (ad 0)), (1, .int a), (2, .int st), (3, .int mk), (5, .ref (ad 2)), (6, .int 8), (7, .int (nI i))]) hx hb dX2_firstAt_64 hl (by decide) rfl (fun ls hl => ?_)
          refine lv_iload hx hb dX2_firstAt_66 (lv_at hl 0 rfl) ?_
          refine lv_if_eq (tgt := 90) hx hb dX2_firstAt_68 (by decide) (fun _ => ?_) (fun c => absurd c (by decide))
          refine lv_iinc (v := (nI (i + 1))) (lv' := [(7, .int (nI (i + 1))), (9, .int 0), (8, .ref (ad (3 + i))), (4, .ref (ad (3 + u))), (0, .ref (ad 0)), (1, .int a), (2, .int st), (3, .int mk), (5, .ref (ad 2)), (6, .int 8)]) hx hb dX2_firstAt_90 hl (k := 9) rfl (nI_1 i) (by decide) rfl (fun ls hl => ?_)
          refine lv_goto (tgt := 17) hx hb dX2_firstAt_93 (by decide) ?_
          exact ih (i + 1) (some u) (by omega) (by intro w hw; cases hw; exact hu) ((congrArg (fk_lp _ n (i + 1)) (show (some u) = fk_bb (kk_fits S a st mk) (kk_ahead S) i (some u) from by simp [fk_bb, kk_fits, c_12])).trans hR) _ _ _ hP hD hS (lv_sub hl [3, 4, 5, 6, 7, 8, 9, 0] rfl)
        · refine lv_aload hx hb dX2_firstAt_40 (lv_at hl 0 rfl) ?_
          refine fk_getT hx hb hts hiX1 hown hK hP (by omega) 2 (by decide) (v := .int (S 1 i)) rfl (List.mem_of_getElem? (i := 3) rfl) rfl dX2_firstAt_42 ?_
          refine lv_iload_n hx hb dX2_firstAt_45 rfl (lv_at hl 4 rfl) ?_
          refine lv_icmp_ne (tgt := 63) hx hb dX2_firstAt_46 (by decide) (fun c_14 => ?_) (fun c_14 => ?_)
          · refine lv_iconst (v := 0) hx hb dX2_firstAt_63 (by decide) ?_
            refine lv_istore (lv' := [(9, .int 0), (8, .ref (ad (3 + i))), (4, .ref (ad (3 + u))), (0, .ref (ad 0)), (1, .int a), (2, .int st), (3, .int mk), (5, .ref (ad 2)), (6, .int 8), (7, .int (nI i))]) hx hb dX2_firstAt_64 hl (by decide) rfl (fun ls hl => ?_)
            refine lv_iload hx hb dX2_firstAt_66 (lv_at hl 0 rfl) ?_
            refine lv_if_eq (tgt := 90) hx hb dX2_firstAt_68 (by decide) (fun _ => ?_) (fun c => absurd c (by decide))
            refine lv_iinc (v := (nI (i + 1))) (lv' := [(7, .int (nI (i + 1))), (9, .int 0), (8, .ref (ad (3 + i))), (4, .ref (ad (3 + u))), (0, .ref (ad 0)), (1, .int a), (2, .int st), (3, .int mk), (5, .ref (ad 2)), (6, .int 8)]) hx hb dX2_firstAt_90 hl (k := 9) rfl (nI_1 i) (by decide) rfl (fun ls hl => ?_)
            refine lv_goto (tgt := 17) hx hb dX2_firstAt_93 (by decide) ?_
            exact ih (i + 1) (some u) (by omega) (by intro w hw; cases hw; exact hu) ((congrArg (fk_lp _ n (i + 1)) (show (some u) = fk_bb (kk_fits S a st mk) (kk_ahead S) i (some u) from by simp [fk_bb, kk_fits, c_12, c_14])).trans hR) _ _ _ hP hD hS (lv_sub hl [3, 4, 5, 6, 7, 8, 9, 0] rfl)
          · refine lv_aload hx hb dX2_firstAt_49 (lv_at hl 0 rfl) ?_
            refine fk_getT hx hb hts hiX1 hown hK hP (by omega) 5 (by decide) (v := .int (S 4 i)) rfl (List.mem_of_getElem? (i := 4) rfl) rfl dX2_firstAt_51 ?_
            refine lv_iload_n hx hb dX2_firstAt_54 rfl (lv_at hl 5 rfl) ?_
            refine lv_iand hx hb dX2_firstAt_55 ?_
            refine lv_if_eq (tgt := 63) hx hb dX2_firstAt_56 (by decide) (fun c_16 => ?_) (fun c_16 => ?_)
            · refine lv_iconst (v := 0) hx hb dX2_firstAt_63 (by decide) ?_
              refine lv_istore (lv' := [(9, .int 0), (8, .ref (ad (3 + i))), (4, .ref (ad (3 + u))), (0, .ref (ad 0)), (1, .int a), (2, .int st), (3, .int mk), (5, .ref (ad 2)), (6, .int 8), (7, .int (nI i))]) hx hb dX2_firstAt_64 hl (by decide) rfl (fun ls hl => ?_)
              refine lv_iload hx hb dX2_firstAt_66 (lv_at hl 0 rfl) ?_
              refine lv_if_eq (tgt := 90) hx hb dX2_firstAt_68 (by decide) (fun _ => ?_) (fun c => absurd c (by decide))
              refine lv_iinc (v := (nI (i + 1))) (lv' := [(7, .int (nI (i + 1))), (9, .int 0), (8, .ref (ad (3 + i))), (4, .ref (ad (3 + u))), (0, .ref (ad 0)), (1, .int a), (2, .int st), (3, .int mk), (5, .ref (ad 2)), (6, .int 8)]) hx hb dX2_firstAt_90 hl (k := 9) rfl (nI_1 i) (by decide) rfl (fun ls hl => ?_)
              refine lv_goto (tgt := 17) hx hb dX2_firstAt_93 (by decide) ?_
              exact ih (i + 1) (some u) (by omega) (by intro w hw; cases hw; exact hu) ((congrArg (fk_lp _ n (i + 1)) (show (some u) = fk_bb (kk_fits S a st mk) (kk_ahead S) i (some u) from by simp [fk_bb, kk_fits, c_12, c_14, c_16])).trans hR) _ _ _ hP hD hS (lv_sub hl [3, 4, 5, 6, 7, 8, 9, 0] rfl)
            · refine lv_iconst (v := 1) hx hb dX2_firstAt_59 (by decide) ?_
              refine lv_goto (tgt := 64) hx hb dX2_firstAt_60 (by decide) ?_
              refine lv_istore (lv' := [(9, .int 1), (8, .ref (ad (3 + i))), (4, .ref (ad (3 + u))), (0, .ref (ad 0)), (1, .int a), (2, .int st), (3, .int mk), (5, .ref (ad 2)), (6, .int 8), (7, .int (nI i))]) hx hb dX2_firstAt_64 hl (by decide) rfl (fun ls hl => ?_)
              refine lv_iload hx hb dX2_firstAt_66 (lv_at hl 0 rfl) ?_
              refine lv_if_eq (tgt := 90) hx hb dX2_firstAt_68 (by decide) (fun c => absurd c (by decide)) (fun _ => ?_)
              refine lv_aload hx hb dX2_firstAt_71 (lv_at hl 2 rfl) ?_
              refine lv_ifnull hx hb dX2_firstAt_73 ?_
              refine lv_aload hx hb dX2_firstAt_76 (lv_at hl 1 rfl) ?_
              refine lv_aload hx hb dX2_firstAt_78 (lv_at hl 2 rfl) ?_
              refine fk_callV (As := [.ref (ad (3 + u))]) (rest := []) ⟨hx, hb, hml, hown, hts⟩ (kc_isAheadOf l D ad cI cT cJ X S i u (by omega) hu) (cwV 1 hts gX2_firstAt_X1_isAheadOf rfl rfl rfl (by decide +kernel) ⟨Nat.le_of_ble_eq_true rfl, Nat.le_of_ble_eq_true rfl⟩) (fk_rvT hK hP (by omega)) hK hP hD hS hA rfl hl.1 rfl (Nat.le_of_ble_eq_true rfl) dX2_firstAt_80 ⟨Nat.le_of_ble_eq_true rfl, Nat.le_of_ble_eq_true rfl⟩ (fun H locs hP hD hS => ?_)
              cases b_19 : kk_ahead S i u with
              | true =>
                refine W.eq (g2 := F0 m 83 ls [.int 1]) (by first | rfl | (rw [b_19]; rfl)) ?_
                refine lv_if_eq (tgt := 90) hx hb dX2_firstAt_83 (by decide) (fun c => absurd c (by decide)) (fun _ => ?_)
                refine lv_aload hx hb dX2_firstAt_86 (lv_at hl 1 rfl) ?_
                refine lv_astore (lv' := [(4, .ref (ad (3 + i))), (9, .int 1), (8, .ref (ad (3 + i))), (0, .ref (ad 0)), (1, .int a), (2, .int st), (3, .int mk), (5, .ref (ad 2)), (6, .int 8), (7, .int (nI i))]) hx hb dX2_firstAt_88 hl (by decide) rfl (fun ls hl => ?_)
                refine lv_iinc (v := (nI (i + 1))) (lv' := [(7, .int (nI (i + 1))), (4, .ref (ad (3 + i))), (9, .int 1), (8, .ref (ad (3 + i))), (0, .ref (ad 0)), (1, .int a), (2, .int st), (3, .int mk), (5, .ref (ad 2)), (6, .int 8)]) hx hb dX2_firstAt_90 hl (k := 9) rfl (nI_1 i) (by decide) rfl (fun ls hl => ?_)
                refine lv_goto (tgt := 17) hx hb dX2_firstAt_93 (by decide) ?_
                exact ih (i + 1) (some i) (by omega) (by intro w hw; cases hw; exact (by omega)) ((congrArg (fk_lp _ n (i + 1)) (show (some i) = fk_bb (kk_fits S a st mk) (kk_ahead S) i (some u) from by simp [fk_bb, kk_fits, c_12, c_14, c_16, b_19])).trans hR) _ _ _ hP hD hS (lv_sub hl [1, 4, 5, 6, 7, 8, 9, 0] rfl)
              | false =>
                refine W.eq (g2 := F0 m 83 ls [.int 0]) (by first | rfl | (rw [b_19]; rfl)) ?_
                refine lv_if_eq (tgt := 90) hx hb dX2_firstAt_83 (by decide) (fun _ => ?_) (fun c => absurd c (by decide))
                refine lv_iinc (v := (nI (i + 1))) (lv' := [(7, .int (nI (i + 1))), (9, .int 1), (8, .ref (ad (3 + i))), (4, .ref (ad (3 + u))), (0, .ref (ad 0)), (1, .int a), (2, .int st), (3, .int mk), (5, .ref (ad 2)), (6, .int 8)]) hx hb dX2_firstAt_90 hl (k := 9) rfl (nI_1 i) (by decide) rfl (fun ls hl => ?_)
                refine lv_goto (tgt := 17) hx hb dX2_firstAt_93 (by decide) ?_
                exact ih (i + 1) (some u) (by omega) (by intro w hw; cases hw; exact hu) ((congrArg (fk_lp _ n (i + 1)) (show (some u) = fk_bb (kk_fits S a st mk) (kk_ahead S) i (some u) from by simp [fk_bb, kk_fits, c_12, c_14, c_16, b_19])).trans hR) _ _ _ hP hD hS (lv_sub hl [3, 4, 5, 6, 7, 8, 9, 0] rfl)
  exact loop 8 0 none rfl (by intro w hw; cases hw) rfl _ _ _ hP hD hS (lv_sub hl [3, 4, 5, 6, 7, 2, 1, 0] rfl)

abbrev rmX2_firstToTimeOut : Room := { frames := 1, cells := 0, slots := 0, locals := 21 }
set_option maxHeartbeats 4000000 in
set_option maxRecDepth 100000 in
theorem kc_firstToTimeOut (l : Launch) (D : va_G) (ad : Nat → Nat) (cI cT cJ : ClassId) (X : va_W) (S : fk_S)  : fk_C l D (fk_ty cI cT cJ) yX2_firstToTimeOut wsX2_firstToTimeOut rmX2_firstToTimeOut [.ref (ad 0)] (fk_kW ad cI cT S ++ X) (fk_vT ad (kk_next S)) (fk_kW ad cI cT S ++ X) := by
  refine fk_C_of (cc := cX2_firstToTimeOut) (maxL := 6) (ret := (some (.object "FutexKernel$Task"))) (own := RX2) (by decide) rfl rfl (Nat.le_of_ble_eq_true rfl) ?_
  intro p e s m below meth c A ls hx hb hr hlocks hml hts hown hA hP hK hD hl
  have hS : va_S A s.heap s.heap [] := va_S.rf
  have hl : lv_has ls 6 [(0, .ref (ad 0))] := hl
  have hiX1 : ∀ w ∈ u_ws RX1 TX1 11, w ∈ wsX2_firstToTimeOut := by decide +kernel
  have hiX2 : ∀ w ∈ u_ws RX2 TX2 6, w ∈ wsX2_firstToTimeOut := by decide +kernel
  refine lv_null hx hb dX2_firstToTimeOut_0 ?_
  refine lv_astore_nN (lv' := [(1, .null), (0, .ref (ad 0))]) hx hb dX2_firstToTimeOut_1 rfl hl (by decide) rfl (fun ls hl => ?_)
  refine lv_aload_n hx hb dX2_firstToTimeOut_2 rfl (lv_at hl 1 rfl) ?_
  refine fk_getK hx hb hts hiX2 hown hK hP 1 (by decide) (v := .ref (ad 2)) rfl (List.mem_of_getElem? (i := 1) rfl) rfl dX2_firstToTimeOut_3 ?_
  refine lv_astore_n (lv' := [(2, .ref (ad 2)), (1, .null), (0, .ref (ad 0))]) hx hb dX2_firstToTimeOut_6 rfl hl (by decide) rfl (fun ls hl => ?_)
  refine lv_aload_n hx hb dX2_firstToTimeOut_7 rfl (lv_at hl 0 rfl) ?_
  refine fk_lenA hx hb hK hP dX2_firstToTimeOut_8 ?_
  refine lv_istore_n (lv' := [(3, .int 8), (2, .ref (ad 2)), (1, .null), (0, .ref (ad 0))]) hx hb dX2_firstToTimeOut_9 rfl hl (by decide) rfl (fun ls hl => ?_)
  refine lv_iconst (v := 0) hx hb dX2_firstToTimeOut_10 (by decide) ?_
  refine lv_istore (lv' := [(4, .int 0), (3, .int 8), (2, .ref (ad 2)), (1, .null), (0, .ref (ad 0))]) hx hb dX2_firstToTimeOut_11 hl (by decide) rfl (fun ls hl => ?_)
  have loop : ∀ (n : Nat) (i : Nat) (x : Option Nat), i + n = 8 → (∀ u, x = some u → u < 8) → fk_lp (fk_bb (fun t => decide (S 5 t ≠ -1)) (kk_sooner S)) n i x = kk_next S → ∀ (H : Heap) (locs : List Loc) (ls : Array Slot), va_P D vwCl (fk_kW ad cI cT S ++ X) H → va_D A (fk_kW ad cI cT S ++ X) → va_S A s.heap H locs → lv_has ls 6 [(1, (match x with | none => Value.null | some t9 => Value.ref (ad (3 + t9)))), (0, .ref (ad 0)), (2, .ref (ad 2)), (3, .int 8), (4, .int (nI i))] → W p l e rmX2_firstToTimeOut s m ([.ref (ad 0)] : List Value).toArray below meth c H locs 0 0 (fk_Q below D (fk_ty cI cT cJ) [.ref (ad 0)] s A (fk_kW ad cI cT S ++ X) (fk_vT ad (kk_next S))) (F0 m 13 ls []) := by
    intro n
    induction n with
    | zero =>
      intro i x hi hx9 hR H locs ls hP hD hS hl
      rcases x with _ | u
      · have hl : lv_has ls 6 [(1, .null), (0, .ref (ad 0)), (2, .ref (ad 2)), (3, .int 8), (4, .int (nI i))] := hl
        refine lv_iload hx hb dX2_firstToTimeOut_13 (lv_at hl 4 rfl) ?_
        refine lv_iload_n hx hb dX2_firstToTimeOut_15 rfl (lv_at hl 3 rfl) ?_
        refine lv_icmp_ge (tgt := 56) hx hb dX2_firstToTimeOut_16 (by decide) (fun c_1 => ?_) (fun c_1 => absurd (nI_le (a := 8) (b := i) (by omega) (by omega)) c_1)
        refine lv_aload_nN hx hb dX2_firstToTimeOut_56 rfl (lv_at hl 0 rfl) ?_
        exact fk_aret hx hb hr (Or.inl ⟨_, rfl⟩) (Or.inl rfl) hlocks hP hK hD hS (congrArg (fun z => fk_kW ad cI cT z ++ X) (by first | rfl | simp [c_1])) (by rw [← hR]; rfl) dX2_firstToTimeOut_57
      · have hl : lv_has ls 6 [(1, .ref (ad (3 + u))), (0, .ref (ad 0)), (2, .ref (ad 2)), (3, .int 8), (4, .int (nI i))] := hl
        have hu : u < 8 := hx9 u rfl
        refine lv_iload hx hb dX2_firstToTimeOut_13 (lv_at hl 4 rfl) ?_
        refine lv_iload_n hx hb dX2_firstToTimeOut_15 rfl (lv_at hl 3 rfl) ?_
        refine lv_icmp_ge (tgt := 56) hx hb dX2_firstToTimeOut_16 (by decide) (fun c_2 => ?_) (fun c_2 => absurd (nI_le (a := 8) (b := i) (by omega) (by omega)) c_2)
        refine lv_aload_n hx hb dX2_firstToTimeOut_56 rfl (lv_at hl 0 rfl) ?_
        exact fk_aret hx hb hr (Or.inl ⟨_, rfl⟩) (Or.inr ⟨_, rfl⟩) hlocks hP hK hD hS (congrArg (fun z => fk_kW ad cI cT z ++ X) (by first | rfl | simp [c_2])) (by rw [← hR]; rfl) dX2_firstToTimeOut_57
    | succ n ih =>
      intro i x hi hx9 hR H locs ls hP hD hS hl
      rcases x with _ | u
      · have hl : lv_has ls 6 [(1, .null), (0, .ref (ad 0)), (2, .ref (ad 2)), (3, .int 8), (4, .int (nI i))] := hl
        refine lv_iload hx hb dX2_firstToTimeOut_13 (lv_at hl 4 rfl) ?_
        refine lv_iload_n hx hb dX2_firstToTimeOut_15 rfl (lv_at hl 3 rfl) ?_
        refine lv_icmp_ge (tgt := 56) hx hb dX2_firstToTimeOut_16 (by decide) (fun c_3 => absurd c_3 (nI_ge (a := i) (b := 8) (by omega) (by omega))) (fun c_3 => ?_)
        refine lv_aload_n hx hb dX2_firstToTimeOut_19 rfl (lv_at hl 2 rfl) ?_
        refine lv_iload hx hb dX2_firstToTimeOut_20 (lv_at hl 4 rfl) ?_
        refine fk_ldA hx hb hK hP (vp_in_nI (show i < 8 from (by omega)) (by decide)) dX2_firstToTimeOut_22 ?_
        refine W.eq (g2 := F0 m 23 ls [.ref (ad (3 + i))]) (by rw [nI_clamp (by omega)]) ?_
        refine lv_astore (lv' := [(5, .ref (ad (3 + i))), (1, .null), (0, .ref (ad 0)), (2, .ref (ad 2)), (3, .int 8), (4, .int (nI i))]) hx hb dX2_firstToTimeOut_23 hl (by decide) rfl (fun ls hl => ?_)
        refine lv_aload hx hb dX2_firstToTimeOut_25 (lv_at hl 0 rfl) ?_
        refine fk_getT hx hb hts hiX1 hown hK hP (by omega) 6 (by decide) (v := .int (S 5 i)) rfl (List.mem_of_getElem? (i := 2) rfl) rfl dX2_firstToTimeOut_27 ?_
        refine lv_iconst (v := (-1)) hx hb dX2_firstToTimeOut_30 (by decide) ?_
        refine lv_icmp_eq (tgt := 50) hx hb dX2_firstToTimeOut_31 (by decide) (fun c_4 => ?_) (fun c_4 => ?_)
        · refine lv_iinc (v := (nI (i + 1))) (lv' := [(4, .int (nI (i + 1))), (5, .ref (ad (3 + i))), (1, .null), (0, .ref (ad 0)), (2, .ref (ad 2)), (3, .int 8)]) hx hb dX2_firstToTimeOut_50 hl (k := 5) rfl (nI_1 i) (by decide) rfl (fun ls hl => ?_)
          refine lv_goto (tgt := 13) hx hb dX2_firstToTimeOut_53 (by decide) ?_
          exact ih (i + 1) none (by omega) (by intro w hw; cases hw) ((congrArg (fk_lp _ n (i + 1)) (show none = fk_bb (fun t => decide (S 5 t ≠ -1)) (kk_sooner S) i none from by simp [fk_bb, c_4])).trans hR) _ _ _ hP hD hS (lv_sub hl [2, 3, 4, 5, 0] rfl)
        · refine lv_aload_nN hx hb dX2_firstToTimeOut_34 rfl (lv_at hl 1 rfl) ?_
          refine lv_ifnullN (tgt := 47) hx hb dX2_firstToTimeOut_35 (by decide) ?_
          refine lv_aload hx hb dX2_firstToTimeOut_47 (lv_at hl 0 rfl) ?_
          refine lv_astore_n (lv' := [(1, .ref (ad (3 + i))), (5, .ref (ad (3 + i))), (0, .ref (ad 0)), (2, .ref (ad 2)), (3, .int 8), (4, .int (nI i))]) hx hb dX2_firstToTimeOut_49 rfl hl (by decide) rfl (fun ls hl => ?_)
          refine lv_iinc (v := (nI (i + 1))) (lv' := [(4, .int (nI (i + 1))), (1, .ref (ad (3 + i))), (5, .ref (ad (3 + i))), (0, .ref (ad 0)), (2, .ref (ad 2)), (3, .int 8)]) hx hb dX2_firstToTimeOut_50 hl (k := 5) rfl (nI_1 i) (by decide) rfl (fun ls hl => ?_)
          refine lv_goto (tgt := 13) hx hb dX2_firstToTimeOut_53 (by decide) ?_
          exact ih (i + 1) (some i) (by omega) (by intro w hw; cases hw; exact (by omega)) ((congrArg (fk_lp _ n (i + 1)) (show (some i) = fk_bb (fun t => decide (S 5 t ≠ -1)) (kk_sooner S) i none from by simp [fk_bb, c_4])).trans hR) _ _ _ hP hD hS (lv_sub hl [1, 3, 4, 5, 0] rfl)
      · have hl : lv_has ls 6 [(1, .ref (ad (3 + u))), (0, .ref (ad 0)), (2, .ref (ad 2)), (3, .int 8), (4, .int (nI i))] := hl
        have hu : u < 8 := hx9 u rfl
        refine lv_iload hx hb dX2_firstToTimeOut_13 (lv_at hl 4 rfl) ?_
        refine lv_iload_n hx hb dX2_firstToTimeOut_15 rfl (lv_at hl 3 rfl) ?_
        refine lv_icmp_ge (tgt := 56) hx hb dX2_firstToTimeOut_16 (by decide) (fun c_5 => absurd c_5 (nI_ge (a := i) (b := 8) (by omega) (by omega))) (fun c_5 => ?_)
        refine lv_aload_n hx hb dX2_firstToTimeOut_19 rfl (lv_at hl 2 rfl) ?_
        refine lv_iload hx hb dX2_firstToTimeOut_20 (lv_at hl 4 rfl) ?_
        refine fk_ldA hx hb hK hP (vp_in_nI (show i < 8 from (by omega)) (by decide)) dX2_firstToTimeOut_22 ?_
        refine W.eq (g2 := F0 m 23 ls [.ref (ad (3 + i))]) (by rw [nI_clamp (by omega)]) ?_
        refine lv_astore (lv' := [(5, .ref (ad (3 + i))), (1, .ref (ad (3 + u))), (0, .ref (ad 0)), (2, .ref (ad 2)), (3, .int 8), (4, .int (nI i))]) hx hb dX2_firstToTimeOut_23 hl (by decide) rfl (fun ls hl => ?_)
        refine lv_aload hx hb dX2_firstToTimeOut_25 (lv_at hl 0 rfl) ?_
        refine fk_getT hx hb hts hiX1 hown hK hP (by omega) 6 (by decide) (v := .int (S 5 i)) rfl (List.mem_of_getElem? (i := 2) rfl) rfl dX2_firstToTimeOut_27 ?_
        refine lv_iconst (v := (-1)) hx hb dX2_firstToTimeOut_30 (by decide) ?_
        refine lv_icmp_eq (tgt := 50) hx hb dX2_firstToTimeOut_31 (by decide) (fun c_6 => ?_) (fun c_6 => ?_)
        · refine lv_iinc (v := (nI (i + 1))) (lv' := [(4, .int (nI (i + 1))), (5, .ref (ad (3 + i))), (1, .ref (ad (3 + u))), (0, .ref (ad 0)), (2, .ref (ad 2)), (3, .int 8)]) hx hb dX2_firstToTimeOut_50 hl (k := 5) rfl (nI_1 i) (by decide) rfl (fun ls hl => ?_)
          refine lv_goto (tgt := 13) hx hb dX2_firstToTimeOut_53 (by decide) ?_
          exact ih (i + 1) (some u) (by omega) (by intro w hw; cases hw; exact hu) ((congrArg (fk_lp _ n (i + 1)) (show (some u) = fk_bb (fun t => decide (S 5 t ≠ -1)) (kk_sooner S) i (some u) from by simp [fk_bb, c_6])).trans hR) _ _ _ hP hD hS (lv_sub hl [2, 3, 4, 5, 0] rfl)
        · refine lv_aload_n hx hb dX2_firstToTimeOut_34 rfl (lv_at hl 1 rfl) ?_
          refine lv_ifnull hx hb dX2_firstToTimeOut_35 ?_
          refine lv_aload hx hb dX2_firstToTimeOut_38 (lv_at hl 0 rfl) ?_
          refine lv_aload_n hx hb dX2_firstToTimeOut_40 rfl (lv_at hl 1 rfl) ?_
          refine fk_callV (As := [.ref (ad (3 + u))]) (rest := []) ⟨hx, hb, hml, hown, hts⟩ (kc_timesOutBefore l D ad cI cT cJ X S i u (by omega) hu) (cwV 1 hts gX2_firstToTimeOut_X1_timesOutBefore rfl rfl rfl (by decide +kernel) ⟨Nat.le_of_ble_eq_true rfl, Nat.le_of_ble_eq_true rfl⟩) (fk_rvT hK hP (by omega)) hK hP hD hS hA rfl hl.1 rfl (Nat.le_of_ble_eq_true rfl) dX2_firstToTimeOut_41 ⟨Nat.le_of_ble_eq_true rfl, Nat.le_of_ble_eq_true rfl⟩ (fun H locs hP hD hS => ?_)
          cases b_7 : kk_sooner S i u with
          | true =>
            refine W.eq (g2 := F0 m 44 ls [.int 1]) (by first | rfl | (rw [b_7]; rfl)) ?_
            refine lv_if_eq (tgt := 50) hx hb dX2_firstToTimeOut_44 (by decide) (fun c => absurd c (by decide)) (fun _ => ?_)
            refine lv_aload hx hb dX2_firstToTimeOut_47 (lv_at hl 0 rfl) ?_
            refine lv_astore_n (lv' := [(1, .ref (ad (3 + i))), (5, .ref (ad (3 + i))), (0, .ref (ad 0)), (2, .ref (ad 2)), (3, .int 8), (4, .int (nI i))]) hx hb dX2_firstToTimeOut_49 rfl hl (by decide) rfl (fun ls hl => ?_)
            refine lv_iinc (v := (nI (i + 1))) (lv' := [(4, .int (nI (i + 1))), (1, .ref (ad (3 + i))), (5, .ref (ad (3 + i))), (0, .ref (ad 0)), (2, .ref (ad 2)), (3, .int 8)]) hx hb dX2_firstToTimeOut_50 hl (k := 5) rfl (nI_1 i) (by decide) rfl (fun ls hl => ?_)
            refine lv_goto (tgt := 13) hx hb dX2_firstToTimeOut_53 (by decide) ?_
            exact ih (i + 1) (some i) (by omega) (by intro w hw; cases hw; exact (by omega)) ((congrArg (fk_lp _ n (i + 1)) (show (some i) = fk_bb (fun t => decide (S 5 t ≠ -1)) (kk_sooner S) i (some u) from by simp [fk_bb, c_6, b_7])).trans hR) _ _ _ hP hD hS (lv_sub hl [1, 3, 4, 5, 0] rfl)
          | false =>
            refine W.eq (g2 := F0 m 44 ls [.int 0]) (by first | rfl | (rw [b_7]; rfl)) ?_
            refine lv_if_eq (tgt := 50) hx hb dX2_firstToTimeOut_44 (by decide) (fun _ => ?_) (fun c => absurd c (by decide))
            refine lv_iinc (v := (nI (i + 1))) (lv' := [(4, .int (nI (i + 1))), (5, .ref (ad (3 + i))), (1, .ref (ad (3 + u))), (0, .ref (ad 0)), (2, .ref (ad 2)), (3, .int 8)]) hx hb dX2_firstToTimeOut_50 hl (k := 5) rfl (nI_1 i) (by decide) rfl (fun ls hl => ?_)
            refine lv_goto (tgt := 13) hx hb dX2_firstToTimeOut_53 (by decide) ?_
            exact ih (i + 1) (some u) (by omega) (by intro w hw; cases hw; exact hu) ((congrArg (fk_lp _ n (i + 1)) (show (some u) = fk_bb (fun t => decide (S 5 t ≠ -1)) (kk_sooner S) i (some u) from by simp [fk_bb, c_6, b_7])).trans hR) _ _ _ hP hD hS (lv_sub hl [2, 3, 4, 5, 0] rfl)
  exact loop 8 0 none rfl (by intro w hw; cases hw) rfl _ _ _ hP hD hS (lv_sub hl [3, 4, 2, 1, 0] rfl)

abbrev rmX2_firstLockingAt : Room := { frames := 2, cells := 0, slots := 0, locals := 50 }
set_option maxHeartbeats 4000000 in
set_option maxRecDepth 100000 in
theorem kc_firstLockingAt (l : Launch) (D : va_G) (ad : Nat → Nat) (cI cT cJ : ClassId) (X : va_W) (S : fk_S) (a : Int32) : fk_C l D (fk_ty cI cT cJ) yX2_firstLockingAt wsX2_firstLockingAt rmX2_firstLockingAt [.ref (ad 0), .int a] (fk_kW ad cI cT S ++ X) (fk_vT ad (kk_lk S a)) (fk_kW ad cI cT S ++ X) := by
  refine fk_C_of (cc := cX2_firstLockingAt) (maxL := 2) (ret := (some (.object "FutexKernel$Task"))) (own := RX2) (by decide) rfl rfl (Nat.le_of_ble_eq_true rfl) ?_
  intro p e s m below meth c A ls hx hb hr hlocks hml hts hown hA hP hK hD hl
  have hS : va_S A s.heap s.heap [] := va_S.rf
  have hl : lv_has ls 2 [(0, .ref (ad 0)), (1, .int a)] := hl
  refine lv_aload_n hx hb dX2_firstLockingAt_0 rfl (lv_at hl 0 rfl) ?_
  refine lv_iload_n hx hb dX2_firstLockingAt_1 rfl (lv_at hl 1 rfl) ?_
  refine lv_iconst (v := 2) hx hb dX2_firstLockingAt_2 (by decide) ?_
  refine lv_sipush (v := 255) hx hb dX2_firstLockingAt_3 (by decide) ?_
  refine fk_callV (As := [.int a, .int 2, .int 255]) (rest := []) ⟨hx, hb, hml, hown, hts⟩ (kc_firstAt l D ad cI cT cJ X S a 2 255) (cwV 3 hts gX2_firstLockingAt_X2_firstAt rfl rfl rfl (by decide +kernel) ⟨Nat.le_of_ble_eq_true rfl, Nat.le_of_ble_eq_true rfl⟩) (fk_rvK hK hP) hK hP hD hS hA rfl hl.1 rfl (Nat.le_of_ble_eq_true rfl) dX2_firstLockingAt_6 ⟨Nat.le_of_ble_eq_true rfl, Nat.le_of_ble_eq_true rfl⟩ (fun H locs hP hD hS => ?_)
  refine W.eq (g2 := F0 m 9 ls [(match kk_lk S a with | none => Value.null | some t9 => Value.ref (ad (3 + t9)))]) rfl ?_
  exact fk_aret hx hb hr (Or.inl ⟨_, rfl⟩) (by cases kk_lk S a with | none => exact Or.inl rfl | some t9 => exact Or.inr ⟨_, rfl⟩) hlocks hP hK hD hS rfl rfl dX2_firstLockingAt_9

abbrev rmX2_countAheadAtAddress : Room := { frames := 1, cells := 0, slots := 0, locals := 21 }
set_option maxHeartbeats 4000000 in
set_option maxRecDepth 100000 in
theorem kc_countAheadAtAddress (l : Launch) (D : va_G) (ad : Nat → Nat) (cI cT cJ : ClassId) (X : va_W) (S : fk_S) (t : Nat) (ht : t < 8) : fk_C l D (fk_ty cI cT cJ) yX2_countAheadAtAddress wsX2_countAheadAtAddress rmX2_countAheadAtAddress [.ref (ad 0), .ref (ad (3 + t))] (fk_kW ad cI cT S ++ X) (some (.int (kk_cntA S t))) (fk_kW ad cI cT S ++ X) := by
  refine fk_C_of (cc := cX2_countAheadAtAddress) (maxL := 7) (ret := (some .int)) (own := RX2) (by decide) rfl rfl (Nat.le_of_ble_eq_true rfl) ?_
  intro p e s m below meth c A ls hx hb hr hlocks hml hts hown hA hP hK hD hl
  have hS : va_S A s.heap s.heap [] := va_S.rf
  have hl : lv_has ls 7 [(0, .ref (ad 0)), (1, .ref (ad (3 + t)))] := hl
  have hiX1 : ∀ w ∈ u_ws RX1 TX1 11, w ∈ wsX2_countAheadAtAddress := by decide +kernel
  have hiX2 : ∀ w ∈ u_ws RX2 TX2 6, w ∈ wsX2_countAheadAtAddress := by decide +kernel
  refine lv_iconst (v := 0) hx hb dX2_countAheadAtAddress_0 (by decide) ?_
  refine lv_istore_n (lv' := [(2, .int 0), (0, .ref (ad 0)), (1, .ref (ad (3 + t)))]) hx hb dX2_countAheadAtAddress_1 rfl hl (by decide) rfl (fun ls hl => ?_)
  refine lv_aload_n hx hb dX2_countAheadAtAddress_2 rfl (lv_at hl 1 rfl) ?_
  refine fk_getK hx hb hts hiX2 hown hK hP 1 (by decide) (v := .ref (ad 2)) rfl (List.mem_of_getElem? (i := 1) rfl) rfl dX2_countAheadAtAddress_3 ?_
  refine lv_astore_n (lv' := [(3, .ref (ad 2)), (2, .int 0), (0, .ref (ad 0)), (1, .ref (ad (3 + t)))]) hx hb dX2_countAheadAtAddress_6 rfl hl (by decide) rfl (fun ls hl => ?_)
  refine lv_aload_n hx hb dX2_countAheadAtAddress_7 rfl (lv_at hl 0 rfl) ?_
  refine fk_lenA hx hb hK hP dX2_countAheadAtAddress_8 ?_
  refine lv_istore (lv' := [(4, .int 8), (3, .ref (ad 2)), (2, .int 0), (0, .ref (ad 0)), (1, .ref (ad (3 + t)))]) hx hb dX2_countAheadAtAddress_9 hl (by decide) rfl (fun ls hl => ?_)
  refine lv_iconst (v := 0) hx hb dX2_countAheadAtAddress_11 (by decide) ?_
  refine lv_istore (lv' := [(5, .int 0), (4, .int 8), (3, .ref (ad 2)), (2, .int 0), (0, .ref (ad 0)), (1, .ref (ad (3 + t)))]) hx hb dX2_countAheadAtAddress_12 hl (by decide) rfl (fun ls hl => ?_)
  have loop : ∀ (n : Nat) (i : Nat) (x : Int32), i + n = 8 → fk_lp (kk_cnt1 (fun u => decide (S 3 u = S 3 t) && kk_ahead S u t)) n i x = kk_cntA S t → ∀ (H : Heap) (locs : List Loc) (ls : Array Slot), va_P D vwCl (fk_kW ad cI cT S ++ X) H → va_D A (fk_kW ad cI cT S ++ X) → va_S A s.heap H locs → lv_has ls 7 [(2, .int x), (0, .ref (ad 0)), (1, .ref (ad (3 + t))), (3, .ref (ad 2)), (4, .int 8), (5, .int (nI i))] → W p l e rmX2_countAheadAtAddress s m ([.ref (ad 0), .ref (ad (3 + t))] : List Value).toArray below meth c H locs 0 0 (fk_Q below D (fk_ty cI cT cJ) [.ref (ad 0), .ref (ad (3 + t))] s A (fk_kW ad cI cT S ++ X) (some (.int (kk_cntA S t)))) (F0 m 14 ls []) := by
    intro n
    induction n with
    | zero =>
      intro i x hi hR H locs ls hP hD hS hl
      refine lv_iload hx hb dX2_countAheadAtAddress_14 (lv_at hl 5 rfl) ?_
      refine lv_iload hx hb dX2_countAheadAtAddress_16 (lv_at hl 4 rfl) ?_
      refine lv_icmp_ge (tgt := 57) hx hb dX2_countAheadAtAddress_18 (by decide) (fun c_1 => ?_) (fun c_1 => absurd (nI_le (a := 8) (b := i) (by omega) (by omega)) c_1)
      refine lv_iload_n hx hb dX2_countAheadAtAddress_57 rfl (lv_at hl 0 rfl) ?_
      exact fk_iret hx hb hr hlocks hP hK hD hS (congrArg (fun z => fk_kW ad cI cT z ++ X) (by first | rfl | simp [c_1])) (by rw [← hR]; rfl) dX2_countAheadAtAddress_58
    | succ n ih =>
      intro i x hi hR H locs ls hP hD hS hl
      refine lv_iload hx hb dX2_countAheadAtAddress_14 (lv_at hl 5 rfl) ?_
      refine lv_iload hx hb dX2_countAheadAtAddress_16 (lv_at hl 4 rfl) ?_
      refine lv_icmp_ge (tgt := 57) hx hb dX2_countAheadAtAddress_18 (by decide) (fun c_2 => absurd c_2 (nI_ge (a := i) (b := 8) (by omega) (by omega))) (fun c_2 => ?_)
      refine lv_aload_n hx hb dX2_countAheadAtAddress_21 rfl (lv_at hl 3 rfl) ?_
      refine lv_iload hx hb dX2_countAheadAtAddress_22 (lv_at hl 5 rfl) ?_
      refine fk_ldA hx hb hK hP (vp_in_nI (show i < 8 from (by omega)) (by decide)) dX2_countAheadAtAddress_24 ?_
      refine W.eq (g2 := F0 m 25 ls [.ref (ad (3 + i))]) (by rw [nI_clamp (by omega)]) ?_
      refine lv_astore (lv' := [(6, .ref (ad (3 + i))), (2, .int x), (0, .ref (ad 0)), (1, .ref (ad (3 + t))), (3, .ref (ad 2)), (4, .int 8), (5, .int (nI i))]) hx hb dX2_countAheadAtAddress_25 hl (by decide) rfl (fun ls hl => ?_)
      refine lv_aload hx hb dX2_countAheadAtAddress_27 (lv_at hl 0 rfl) ?_
      refine fk_getT hx hb hts hiX1 hown hK hP (by omega) 4 (by decide) (v := .int (S 3 i)) rfl (List.mem_of_getElem? (i := 2) rfl) rfl dX2_countAheadAtAddress_29 ?_
      refine lv_aload_n hx hb dX2_countAheadAtAddress_32 rfl (lv_at hl 3 rfl) ?_
      refine fk_getT hx hb hts hiX1 hown hK hP ht 4 (by decide) (v := .int (S 3 t)) rfl (List.mem_of_getElem? (i := 2) rfl) rfl dX2_countAheadAtAddress_33 ?_
      refine lv_icmp_ne (tgt := 51) hx hb dX2_countAheadAtAddress_36 (by decide) (fun c_3 => ?_) (fun c_3 => ?_)
      · refine lv_iinc (v := (nI (i + 1))) (lv' := [(5, .int (nI (i + 1))), (6, .ref (ad (3 + i))), (2, .int x), (0, .ref (ad 0)), (1, .ref (ad (3 + t))), (3, .ref (ad 2)), (4, .int 8)]) hx hb dX2_countAheadAtAddress_51 hl (k := 6) rfl (nI_1 i) (by decide) rfl (fun ls hl => ?_)
        refine lv_goto (tgt := 14) hx hb dX2_countAheadAtAddress_54 (by decide) ?_
        exact ih (i + 1) x (by omega) ((congrArg (fk_lp _ n (i + 1)) (show x = kk_cnt1 (fun u => decide (S 3 u = S 3 t) && kk_ahead S u t) i x from by simp [kk_cnt1, c_3])).trans hR) _ _ _ hP hD hS (lv_sub hl [2, 3, 4, 5, 6, 0] rfl)
      · refine lv_aload hx hb dX2_countAheadAtAddress_39 (lv_at hl 0 rfl) ?_
        refine lv_aload_n hx hb dX2_countAheadAtAddress_41 rfl (lv_at hl 3 rfl) ?_
        refine fk_callV (As := [.ref (ad (3 + t))]) (rest := []) ⟨hx, hb, hml, hown, hts⟩ (kc_isAheadOf l D ad cI cT cJ X S i t (by omega) ht) (cwV 1 hts gX2_countAheadAtAddress_X1_isAheadOf rfl rfl rfl (by decide +kernel) ⟨Nat.le_of_ble_eq_true rfl, Nat.le_of_ble_eq_true rfl⟩) (fk_rvT hK hP (by omega)) hK hP hD hS hA rfl hl.1 rfl (Nat.le_of_ble_eq_true rfl) dX2_countAheadAtAddress_42 ⟨Nat.le_of_ble_eq_true rfl, Nat.le_of_ble_eq_true rfl⟩ (fun H locs hP hD hS => ?_)
        cases b_4 : kk_ahead S i t with
        | true =>
          refine W.eq (g2 := F0 m 45 ls [.int 1]) (by first | rfl | (rw [b_4]; rfl)) ?_
          refine lv_if_eq (tgt := 51) hx hb dX2_countAheadAtAddress_45 (by decide) (fun c => absurd c (by decide)) (fun _ => ?_)
          refine lv_iinc (v := (x + 1)) (lv' := [(2, .int (x + 1)), (6, .ref (ad (3 + i))), (0, .ref (ad 0)), (1, .ref (ad (3 + t))), (3, .ref (ad 2)), (4, .int 8), (5, .int (nI i))]) hx hb dX2_countAheadAtAddress_48 hl (k := 1) rfl rfl (by decide) rfl (fun ls hl => ?_)
          refine lv_iinc (v := (nI (i + 1))) (lv' := [(5, .int (nI (i + 1))), (2, .int (x + 1)), (6, .ref (ad (3 + i))), (0, .ref (ad 0)), (1, .ref (ad (3 + t))), (3, .ref (ad 2)), (4, .int 8)]) hx hb dX2_countAheadAtAddress_51 hl (k := 6) rfl (nI_1 i) (by decide) rfl (fun ls hl => ?_)
          refine lv_goto (tgt := 14) hx hb dX2_countAheadAtAddress_54 (by decide) ?_
          exact ih (i + 1) (x + 1) (by omega) ((congrArg (fk_lp _ n (i + 1)) (show (x + 1) = kk_cnt1 (fun u => decide (S 3 u = S 3 t) && kk_ahead S u t) i x from by simp [kk_cnt1, c_3, b_4])).trans hR) _ _ _ hP hD hS (lv_sub hl [1, 3, 4, 5, 6, 0] rfl)
        | false =>
          refine W.eq (g2 := F0 m 45 ls [.int 0]) (by first | rfl | (rw [b_4]; rfl)) ?_
          refine lv_if_eq (tgt := 51) hx hb dX2_countAheadAtAddress_45 (by decide) (fun _ => ?_) (fun c => absurd c (by decide))
          refine lv_iinc (v := (nI (i + 1))) (lv' := [(5, .int (nI (i + 1))), (6, .ref (ad (3 + i))), (2, .int x), (0, .ref (ad 0)), (1, .ref (ad (3 + t))), (3, .ref (ad 2)), (4, .int 8)]) hx hb dX2_countAheadAtAddress_51 hl (k := 6) rfl (nI_1 i) (by decide) rfl (fun ls hl => ?_)
          refine lv_goto (tgt := 14) hx hb dX2_countAheadAtAddress_54 (by decide) ?_
          exact ih (i + 1) x (by omega) ((congrArg (fk_lp _ n (i + 1)) (show x = kk_cnt1 (fun u => decide (S 3 u = S 3 t) && kk_ahead S u t) i x from by simp [kk_cnt1, c_3, b_4])).trans hR) _ _ _ hP hD hS (lv_sub hl [2, 3, 4, 5, 6, 0] rfl)
  exact loop 8 0 0 rfl rfl _ _ _ hP hD hS (lv_sub hl [3, 4, 5, 2, 1, 0] rfl)

abbrev rmX2_countAheadInBucket : Room := { frames := 1, cells := 0, slots := 0, locals := 21 }
set_option maxHeartbeats 4000000 in
set_option maxRecDepth 100000 in
theorem kc_countAheadInBucket (l : Launch) (D : va_G) (ad : Nat → Nat) (cI cT cJ : ClassId) (X : va_W) (S : fk_S) (t : Nat) (ht : t < 8) : fk_C l D (fk_ty cI cT cJ) yX2_countAheadInBucket wsX2_countAheadInBucket rmX2_countAheadInBucket [.ref (ad 0), .ref (ad (3 + t))] (fk_kW ad cI cT S ++ X) (some (.int (kk_cntB S t))) (fk_kW ad cI cT S ++ X) := by
  refine fk_C_of (cc := cX2_countAheadInBucket) (maxL := 7) (ret := (some .int)) (own := RX2) (by decide) rfl rfl (Nat.le_of_ble_eq_true rfl) ?_
  intro p e s m below meth c A ls hx hb hr hlocks hml hts hown hA hP hK hD hl
  have hS : va_S A s.heap s.heap [] := va_S.rf
  have hl : lv_has ls 7 [(0, .ref (ad 0)), (1, .ref (ad (3 + t)))] := hl
  have hiX1 : ∀ w ∈ u_ws RX1 TX1 11, w ∈ wsX2_countAheadInBucket := by decide +kernel
  have hiX2 : ∀ w ∈ u_ws RX2 TX2 6, w ∈ wsX2_countAheadInBucket := by decide +kernel
  refine lv_iconst (v := 0) hx hb dX2_countAheadInBucket_0 (by decide) ?_
  refine lv_istore_n (lv' := [(2, .int 0), (0, .ref (ad 0)), (1, .ref (ad (3 + t)))]) hx hb dX2_countAheadInBucket_1 rfl hl (by decide) rfl (fun ls hl => ?_)
  refine lv_aload_n hx hb dX2_countAheadInBucket_2 rfl (lv_at hl 1 rfl) ?_
  refine fk_getK hx hb hts hiX2 hown hK hP 1 (by decide) (v := .ref (ad 2)) rfl (List.mem_of_getElem? (i := 1) rfl) rfl dX2_countAheadInBucket_3 ?_
  refine lv_astore_n (lv' := [(3, .ref (ad 2)), (2, .int 0), (0, .ref (ad 0)), (1, .ref (ad (3 + t)))]) hx hb dX2_countAheadInBucket_6 rfl hl (by decide) rfl (fun ls hl => ?_)
  refine lv_aload_n hx hb dX2_countAheadInBucket_7 rfl (lv_at hl 0 rfl) ?_
  refine fk_lenA hx hb hK hP dX2_countAheadInBucket_8 ?_
  refine lv_istore (lv' := [(4, .int 8), (3, .ref (ad 2)), (2, .int 0), (0, .ref (ad 0)), (1, .ref (ad (3 + t)))]) hx hb dX2_countAheadInBucket_9 hl (by decide) rfl (fun ls hl => ?_)
  refine lv_iconst (v := 0) hx hb dX2_countAheadInBucket_11 (by decide) ?_
  refine lv_istore (lv' := [(5, .int 0), (4, .int 8), (3, .ref (ad 2)), (2, .int 0), (0, .ref (ad 0)), (1, .ref (ad (3 + t)))]) hx hb dX2_countAheadInBucket_12 hl (by decide) rfl (fun ls hl => ?_)
  have loop : ∀ (n : Nat) (i : Nat) (x : Int32), i + n = 8 → fk_lp (kk_cnt1 (fun u => kk_q S u && decide (fk_bkt (S 3 u) = fk_bkt (S 3 t)) && kk_ahead S u t)) n i x = kk_cntB S t → ∀ (H : Heap) (locs : List Loc) (ls : Array Slot), va_P D vwCl (fk_kW ad cI cT S ++ X) H → va_D A (fk_kW ad cI cT S ++ X) → va_S A s.heap H locs → lv_has ls 7 [(2, .int x), (0, .ref (ad 0)), (1, .ref (ad (3 + t))), (3, .ref (ad 2)), (4, .int 8), (5, .int (nI i))] → W p l e rmX2_countAheadInBucket s m ([.ref (ad 0), .ref (ad (3 + t))] : List Value).toArray below meth c H locs 0 0 (fk_Q below D (fk_ty cI cT cJ) [.ref (ad 0), .ref (ad (3 + t))] s A (fk_kW ad cI cT S ++ X) (some (.int (kk_cntB S t)))) (F0 m 14 ls []) := by
    intro n
    induction n with
    | zero =>
      intro i x hi hR H locs ls hP hD hS hl
      refine lv_iload hx hb dX2_countAheadInBucket_14 (lv_at hl 5 rfl) ?_
      refine lv_iload hx hb dX2_countAheadInBucket_16 (lv_at hl 4 rfl) ?_
      refine lv_icmp_ge (tgt := 71) hx hb dX2_countAheadInBucket_18 (by decide) (fun c_1 => ?_) (fun c_1 => absurd (nI_le (a := 8) (b := i) (by omega) (by omega)) c_1)
      refine lv_iload_n hx hb dX2_countAheadInBucket_71 rfl (lv_at hl 0 rfl) ?_
      exact fk_iret hx hb hr hlocks hP hK hD hS (congrArg (fun z => fk_kW ad cI cT z ++ X) (by first | rfl | simp [c_1])) (by rw [← hR]; rfl) dX2_countAheadInBucket_72
    | succ n ih =>
      intro i x hi hR H locs ls hP hD hS hl
      refine lv_iload hx hb dX2_countAheadInBucket_14 (lv_at hl 5 rfl) ?_
      refine lv_iload hx hb dX2_countAheadInBucket_16 (lv_at hl 4 rfl) ?_
      refine lv_icmp_ge (tgt := 71) hx hb dX2_countAheadInBucket_18 (by decide) (fun c_2 => absurd c_2 (nI_ge (a := i) (b := 8) (by omega) (by omega))) (fun c_2 => ?_)
      refine lv_aload_n hx hb dX2_countAheadInBucket_21 rfl (lv_at hl 3 rfl) ?_
      refine lv_iload hx hb dX2_countAheadInBucket_22 (lv_at hl 5 rfl) ?_
      refine fk_ldA hx hb hK hP (vp_in_nI (show i < 8 from (by omega)) (by decide)) dX2_countAheadInBucket_24 ?_
      refine W.eq (g2 := F0 m 25 ls [.ref (ad (3 + i))]) (by rw [nI_clamp (by omega)]) ?_
      refine lv_astore (lv' := [(6, .ref (ad (3 + i))), (2, .int x), (0, .ref (ad 0)), (1, .ref (ad (3 + t))), (3, .ref (ad 2)), (4, .int 8), (5, .int (nI i))]) hx hb dX2_countAheadInBucket_25 hl (by decide) rfl (fun ls hl => ?_)
      refine lv_aload hx hb dX2_countAheadInBucket_27 (lv_at hl 0 rfl) ?_
      refine fk_callV (As := []) (rest := []) ⟨hx, hb, hml, hown, hts⟩ (kc_isQueued l D ad cI cT cJ X S i (by omega)) (cwV 0 hts gX2_countAheadInBucket_X1_isQueued rfl rfl rfl (by decide +kernel) ⟨Nat.le_of_ble_eq_true rfl, Nat.le_of_ble_eq_true rfl⟩) (fk_rvT hK hP (by omega)) hK hP hD hS hA rfl hl.1 rfl (Nat.le_of_ble_eq_true rfl) dX2_countAheadInBucket_29 ⟨Nat.le_of_ble_eq_true rfl, Nat.le_of_ble_eq_true rfl⟩ (fun H locs hP hD hS => ?_)
      cases b_3 : kk_q S i with
      | true =>
        refine W.eq (g2 := F0 m 32 ls [.int 1]) (by first | rfl | (rw [b_3]; rfl)) ?_
        refine lv_if_eq (tgt := 65) hx hb dX2_countAheadInBucket_32 (by decide) (fun c => absurd c (by decide)) (fun _ => ?_)
        refine lv_aload hx hb dX2_countAheadInBucket_35 (lv_at hl 0 rfl) ?_
        refine fk_getT hx hb hts hiX1 hown hK hP (by omega) 4 (by decide) (v := .int (S 3 i)) rfl (List.mem_of_getElem? (i := 2) rfl) rfl dX2_countAheadInBucket_37 ?_
        refine fk_callS (As := [.int (S 3 i)]) (rest := []) ⟨hx, hb, hml, hown, hts⟩ (kc_bucketOf l D ad cI cT cJ X S (S 3 i)) (va_cwS 1 hts gX2_countAheadInBucket_X2_bucketOf rfl rfl rfl (by decide +kernel) ⟨Nat.le_of_ble_eq_true rfl, Nat.le_of_ble_eq_true rfl⟩) hK hP hD hS hA rfl hl.1 rfl (Nat.le_of_ble_eq_true rfl) dX2_countAheadInBucket_40 ⟨Nat.le_of_ble_eq_true rfl, Nat.le_of_ble_eq_true rfl⟩ (fun H locs hP hD hS => ?_)
        refine W.eq (g2 := F0 m 43 ls [.int (fk_bkt (S 3 i))]) rfl ?_
        refine lv_aload_n hx hb dX2_countAheadInBucket_43 rfl (lv_at hl 3 rfl) ?_
        refine fk_getT hx hb hts hiX1 hown hK hP ht 4 (by decide) (v := .int (S 3 t)) rfl (List.mem_of_getElem? (i := 2) rfl) rfl dX2_countAheadInBucket_44 ?_
        refine fk_callS (As := [.int (S 3 t)]) (rest := [.int (fk_bkt (S 3 i))]) ⟨hx, hb, hml, hown, hts⟩ (kc_bucketOf l D ad cI cT cJ X S (S 3 t)) (va_cwS 1 hts gX2_countAheadInBucket_X2_bucketOf rfl rfl rfl (by decide +kernel) ⟨Nat.le_of_ble_eq_true rfl, Nat.le_of_ble_eq_true rfl⟩) hK hP hD hS hA rfl hl.1 rfl (Nat.le_of_ble_eq_true rfl) dX2_countAheadInBucket_47 ⟨Nat.le_of_ble_eq_true rfl, Nat.le_of_ble_eq_true rfl⟩ (fun H locs hP hD hS => ?_)
        refine W.eq (g2 := F0 m 50 ls [.int (fk_bkt (S 3 t)), .int (fk_bkt (S 3 i))]) rfl ?_
        refine lv_icmp_ne (tgt := 65) hx hb dX2_countAheadInBucket_50 (by decide) (fun c_5 => ?_) (fun c_5 => ?_)
        · refine lv_iinc (v := (nI (i + 1))) (lv' := [(5, .int (nI (i + 1))), (6, .ref (ad (3 + i))), (2, .int x), (0, .ref (ad 0)), (1, .ref (ad (3 + t))), (3, .ref (ad 2)), (4, .int 8)]) hx hb dX2_countAheadInBucket_65 hl (k := 6) rfl (nI_1 i) (by decide) rfl (fun ls hl => ?_)
          refine lv_goto (tgt := 14) hx hb dX2_countAheadInBucket_68 (by decide) ?_
          exact ih (i + 1) x (by omega) ((congrArg (fk_lp _ n (i + 1)) (show x = kk_cnt1 (fun u => kk_q S u && decide (fk_bkt (S 3 u) = fk_bkt (S 3 t)) && kk_ahead S u t) i x from by simp [kk_cnt1, b_3, c_5])).trans hR) _ _ _ hP hD hS (lv_sub hl [2, 3, 4, 5, 6, 0] rfl)
        · refine lv_aload hx hb dX2_countAheadInBucket_53 (lv_at hl 0 rfl) ?_
          refine lv_aload_n hx hb dX2_countAheadInBucket_55 rfl (lv_at hl 3 rfl) ?_
          refine fk_callV (As := [.ref (ad (3 + t))]) (rest := []) ⟨hx, hb, hml, hown, hts⟩ (kc_isAheadOf l D ad cI cT cJ X S i t (by omega) ht) (cwV 1 hts gX2_countAheadInBucket_X1_isAheadOf rfl rfl rfl (by decide +kernel) ⟨Nat.le_of_ble_eq_true rfl, Nat.le_of_ble_eq_true rfl⟩) (fk_rvT hK hP (by omega)) hK hP hD hS hA rfl hl.1 rfl (Nat.le_of_ble_eq_true rfl) dX2_countAheadInBucket_56 ⟨Nat.le_of_ble_eq_true rfl, Nat.le_of_ble_eq_true rfl⟩ (fun H locs hP hD hS => ?_)
          cases b_6 : kk_ahead S i t with
          | true =>
            refine W.eq (g2 := F0 m 59 ls [.int 1]) (by first | rfl | (rw [b_6]; rfl)) ?_
            refine lv_if_eq (tgt := 65) hx hb dX2_countAheadInBucket_59 (by decide) (fun c => absurd c (by decide)) (fun _ => ?_)
            refine lv_iinc (v := (x + 1)) (lv' := [(2, .int (x + 1)), (6, .ref (ad (3 + i))), (0, .ref (ad 0)), (1, .ref (ad (3 + t))), (3, .ref (ad 2)), (4, .int 8), (5, .int (nI i))]) hx hb dX2_countAheadInBucket_62 hl (k := 1) rfl rfl (by decide) rfl (fun ls hl => ?_)
            refine lv_iinc (v := (nI (i + 1))) (lv' := [(5, .int (nI (i + 1))), (2, .int (x + 1)), (6, .ref (ad (3 + i))), (0, .ref (ad 0)), (1, .ref (ad (3 + t))), (3, .ref (ad 2)), (4, .int 8)]) hx hb dX2_countAheadInBucket_65 hl (k := 6) rfl (nI_1 i) (by decide) rfl (fun ls hl => ?_)
            refine lv_goto (tgt := 14) hx hb dX2_countAheadInBucket_68 (by decide) ?_
            exact ih (i + 1) (x + 1) (by omega) ((congrArg (fk_lp _ n (i + 1)) (show (x + 1) = kk_cnt1 (fun u => kk_q S u && decide (fk_bkt (S 3 u) = fk_bkt (S 3 t)) && kk_ahead S u t) i x from by simp [kk_cnt1, b_3, c_5, b_6])).trans hR) _ _ _ hP hD hS (lv_sub hl [1, 3, 4, 5, 6, 0] rfl)
          | false =>
            refine W.eq (g2 := F0 m 59 ls [.int 0]) (by first | rfl | (rw [b_6]; rfl)) ?_
            refine lv_if_eq (tgt := 65) hx hb dX2_countAheadInBucket_59 (by decide) (fun _ => ?_) (fun c => absurd c (by decide))
            refine lv_iinc (v := (nI (i + 1))) (lv' := [(5, .int (nI (i + 1))), (6, .ref (ad (3 + i))), (2, .int x), (0, .ref (ad 0)), (1, .ref (ad (3 + t))), (3, .ref (ad 2)), (4, .int 8)]) hx hb dX2_countAheadInBucket_65 hl (k := 6) rfl (nI_1 i) (by decide) rfl (fun ls hl => ?_)
            refine lv_goto (tgt := 14) hx hb dX2_countAheadInBucket_68 (by decide) ?_
            exact ih (i + 1) x (by omega) ((congrArg (fk_lp _ n (i + 1)) (show x = kk_cnt1 (fun u => kk_q S u && decide (fk_bkt (S 3 u) = fk_bkt (S 3 t)) && kk_ahead S u t) i x from by simp [kk_cnt1, b_3, c_5, b_6])).trans hR) _ _ _ hP hD hS (lv_sub hl [2, 3, 4, 5, 6, 0] rfl)
      | false =>
        refine W.eq (g2 := F0 m 32 ls [.int 0]) (by first | rfl | (rw [b_3]; rfl)) ?_
        refine lv_if_eq (tgt := 65) hx hb dX2_countAheadInBucket_32 (by decide) (fun _ => ?_) (fun c => absurd c (by decide))
        refine lv_iinc (v := (nI (i + 1))) (lv' := [(5, .int (nI (i + 1))), (6, .ref (ad (3 + i))), (2, .int x), (0, .ref (ad 0)), (1, .ref (ad (3 + t))), (3, .ref (ad 2)), (4, .int 8)]) hx hb dX2_countAheadInBucket_65 hl (k := 6) rfl (nI_1 i) (by decide) rfl (fun ls hl => ?_)
        refine lv_goto (tgt := 14) hx hb dX2_countAheadInBucket_68 (by decide) ?_
        exact ih (i + 1) x (by omega) ((congrArg (fk_lp _ n (i + 1)) (show x = kk_cnt1 (fun u => kk_q S u && decide (fk_bkt (S 3 u) = fk_bkt (S 3 t)) && kk_ahead S u t) i x from by simp [kk_cnt1, b_3])).trans hR) _ _ _ hP hD hS (lv_sub hl [2, 3, 4, 5, 6, 0] rfl)
  exact loop 8 0 0 rfl rfl _ _ _ hP hD hS (lv_sub hl [3, 4, 5, 2, 1, 0] rfl)

abbrev rmX2_ownerAt : Room := { frames := 1, cells := 0, slots := 0, locals := 20 }
set_option maxHeartbeats 4000000 in
set_option maxRecDepth 100000 in
theorem kc_ownerAt (l : Launch) (D : va_G) (ad : Nat → Nat) (cI cT cJ : ClassId) (X : va_W) (S : fk_S) (a : Int32) : fk_C l D (fk_ty cI cT cJ) yX2_ownerAt wsX2_ownerAt rmX2_ownerAt [.ref (ad 0), .int a] (fk_kW ad cI cT S ++ X) (fk_vT ad (kk_owner S a)) (fk_kW ad cI cT S ++ X) := by
  refine fk_C_of (cc := cX2_ownerAt) (maxL := 3) (ret := (some (.object "FutexKernel$Task"))) (own := RX2) (by decide) rfl rfl (Nat.le_of_ble_eq_true rfl) ?_
  intro p e s m below meth c A ls hx hb hr hlocks hml hts hown hA hP hK hD hl
  have hS : va_S A s.heap s.heap [] := va_S.rf
  have hl : lv_has ls 3 [(0, .ref (ad 0)), (1, .int a)] := hl
  have hiX2 : ∀ w ∈ u_ws RX2 TX2 6, w ∈ wsX2_ownerAt := by decide +kernel
  refine lv_iload_n hx hb dX2_ownerAt_0 rfl (lv_at hl 1 rfl) ?_
  refine fk_callS (As := [.int a]) (rest := []) ⟨hx, hb, hml, hown, hts⟩ (kc_isAddress l D ad cI cT cJ X S a) (va_cwS 1 hts gX2_ownerAt_X2_isAddress rfl rfl rfl (by decide +kernel) ⟨Nat.le_of_ble_eq_true rfl, Nat.le_of_ble_eq_true rfl⟩) hK hP hD hS hA rfl hl.1 rfl (Nat.le_of_ble_eq_true rfl) dX2_ownerAt_1 ⟨Nat.le_of_ble_eq_true rfl, Nat.le_of_ble_eq_true rfl⟩ (fun H locs hP hD hS => ?_)
  cases b_1 : fk_isA a with
  | true =>
    refine W.eq (g2 := F0 m 4 ls [.int 1]) (by first | rfl | (rw [b_1]; rfl)) ?_
    refine lv_if_ne (tgt := 9) hx hb dX2_ownerAt_4 (by decide) (fun _ => ?_) (fun c => absurd c (by decide))
    refine lv_aload_n hx hb dX2_ownerAt_9 rfl (lv_at hl 0 rfl) ?_
    refine fk_getK hx hb hts hiX2 hown hK hP 0 (by decide) (v := .ref (ad 1)) rfl (List.mem_of_getElem? (i := 1) rfl) rfl dX2_ownerAt_10 ?_
    refine lv_iload_n hx hb dX2_ownerAt_13 rfl (lv_at hl 1 rfl) ?_
    refine fk_ldW hx hb hK hP (fk_isA_in b_1) dX2_ownerAt_14 ?_
    refine lv_sipush (v := 255) hx hb dX2_ownerAt_15 (by decide) ?_
    refine lv_iand hx hb dX2_ownerAt_18 ?_
    refine lv_istore_n (lv' := [(2, .int ((S 0 a.toNatClampNeg) &&& 255)), (0, .ref (ad 0)), (1, .int a)]) hx hb dX2_ownerAt_19 rfl hl (by decide) rfl (fun ls hl => ?_)
    refine lv_iload_n hx hb dX2_ownerAt_20 rfl (lv_at hl 0 rfl) ?_
    refine lv_iconst (v := 1) hx hb dX2_ownerAt_21 (by decide) ?_
    refine lv_icmp_lt (tgt := 42) hx hb dX2_ownerAt_22 (by decide) (fun c_3 => ?_) (fun c_3 => ?_)
    · refine lv_null hx hb dX2_ownerAt_42 ?_
      exact fk_aret hx hb hr (Or.inl ⟨_, rfl⟩) (Or.inl rfl) hlocks hP hK hD hS (congrArg (fun z => fk_kW ad cI cT z ++ X) (by first | rfl | simp [b_1, c_3, Int32.not_le.mpr c_3])) (by first | rfl | simp [kk_owner, fk_vT, b_1, c_3, Int32.not_le.mpr c_3]) dX2_ownerAt_43
    · refine lv_iload_n hx hb dX2_ownerAt_25 rfl (lv_at hl 0 rfl) ?_
      refine lv_bipush (v := 8) hx hb dX2_ownerAt_26 (by decide) ?_
      refine lv_icmp_gt (tgt := 42) hx hb dX2_ownerAt_28 (by decide) (fun c_4 => ?_) (fun c_4 => ?_)
      · refine lv_null hx hb dX2_ownerAt_42 ?_
        exact fk_aret hx hb hr (Or.inl ⟨_, rfl⟩) (Or.inl rfl) hlocks hP hK hD hS (congrArg (fun z => fk_kW ad cI cT z ++ X) (by first | rfl | simp [b_1, c_3, Int32.not_lt.mp c_3, c_4, Int32.not_le.mpr c_4])) (by first | rfl | simp [kk_owner, fk_vT, b_1, c_3, Int32.not_lt.mp c_3, c_4, Int32.not_le.mpr c_4]) dX2_ownerAt_43
      · refine lv_aload_n hx hb dX2_ownerAt_31 rfl (lv_at hl 1 rfl) ?_
        refine fk_getK hx hb hts hiX2 hown hK hP 1 (by decide) (v := .ref (ad 2)) rfl (List.mem_of_getElem? (i := 2) rfl) rfl dX2_ownerAt_32 ?_
        refine lv_iload_n hx hb dX2_ownerAt_35 rfl (lv_at hl 0 rfl) ?_
        refine lv_iconst (v := 1) hx hb dX2_ownerAt_36 (by decide) ?_
        refine lv_isub hx hb dX2_ownerAt_37 ?_
        refine fk_ldA hx hb hK hP (fk_own_in c_3 c_4) dX2_ownerAt_38 ?_
        refine lv_goto (tgt := 43) hx hb dX2_ownerAt_39 (by decide) ?_
        exact fk_aret hx hb hr (Or.inl ⟨_, rfl⟩) (Or.inr ⟨_, rfl⟩) hlocks hP hK hD hS (congrArg (fun z => fk_kW ad cI cT z ++ X) (by first | rfl | simp [b_1, c_3, Int32.not_lt.mp c_3, c_4, Int32.not_lt.mp c_4])) (by first | rfl | simp [kk_owner, fk_vT, b_1, c_3, Int32.not_lt.mp c_3, c_4, Int32.not_lt.mp c_4]) dX2_ownerAt_43
  | false =>
    refine W.eq (g2 := F0 m 4 ls [.int 0]) (by first | rfl | (rw [b_1]; rfl)) ?_
    refine lv_if_ne (tgt := 9) hx hb dX2_ownerAt_4 (by decide) (fun c => absurd c (by decide)) (fun _ => ?_)
    refine lv_null hx hb dX2_ownerAt_7 ?_
    exact fk_aret hx hb hr (Or.inl ⟨_, rfl⟩) (Or.inl rfl) hlocks hP hK hD hS (congrArg (fun z => fk_kW ad cI cT z ++ X) (by first | rfl | simp [b_1])) (by first | rfl | simp [kk_owner, fk_vT, b_1]) dX2_ownerAt_8

abbrev rmX2_beginWait : Room := { frames := 1, cells := 0, slots := 0, locals := 22 }
set_option maxHeartbeats 4000000 in
set_option maxRecDepth 100000 in
theorem kc_beginWait (l : Launch) (D : va_G) (ad : Nat → Nat) (cI cT cJ : ClassId) (X : va_W) (S : fk_S) (t : Nat) (st a mk to : Int32) (ht : t < 8) : fk_C l D (fk_ty cI cT cJ) yX2_beginWait wsX2_beginWait rmX2_beginWait [.ref (ad 0), .ref (ad (3 + t)), .int st, .int a, .int mk, .int to] (fk_kW ad cI cT S ++ X) none (fk_kW ad cI cT (kk_begin S t st a mk to) ++ X) := by
  refine fk_C_of (cc := cX2_beginWait) (maxL := 6) (ret := none) (own := RX2) (by decide) rfl rfl (Nat.le_of_ble_eq_true rfl) ?_
  intro p e s m below meth c A ls hx hb hr hlocks hml hts hown hA hP hK hD hl
  have hS : va_S A s.heap s.heap [] := va_S.rf
  have hl : lv_has ls 6 [(0, .ref (ad 0)), (1, .ref (ad (3 + t))), (2, .int st), (3, .int a), (4, .int mk), (5, .int to)] := hl
  have hiX1 : ∀ w ∈ u_ws RX1 TX1 11, w ∈ wsX2_beginWait := by decide +kernel
  have hiX2 : ∀ w ∈ u_ws RX2 TX2 6, w ∈ wsX2_beginWait := by decide +kernel
  refine lv_aload_n hx hb dX2_beginWait_0 rfl (lv_at hl 1 rfl) ?_
  refine lv_iload_n hx hb dX2_beginWait_1 rfl (lv_at hl 2 rfl) ?_
  refine fk_putT (v := st) hx hb hts hiX1 hown hK hP hD hS ht 1 (by decide) (by decide) (by simp [fk_fT, fk_up]) (List.mem_of_getElem? (i := 1) rfl) rfl rfl (by decide +kernel) dX2_beginWait_2 (fun H locs hP hD hS => ?_)
  refine lv_aload_n hx hb dX2_beginWait_5 rfl (lv_at hl 1 rfl) ?_
  refine lv_iload hx hb dX2_beginWait_6 (lv_at hl 4 rfl) ?_
  refine fk_putT (v := mk) hx hb hts hiX1 hown hK hP hD hS ht 4 (by decide) (by decide) (by simp [fk_fT, fk_up]) (List.mem_of_getElem? (i := 2) rfl) rfl rfl (by decide +kernel) dX2_beginWait_8 (fun H locs hP hD hS => ?_)
  refine lv_aload_n hx hb dX2_beginWait_11 rfl (lv_at hl 1 rfl) ?_
  refine lv_iload hx hb dX2_beginWait_12 (lv_at hl 5 rfl) ?_
  refine lv_if_ne (tgt := 21) hx hb dX2_beginWait_14 (by decide) (fun c_1 => ?_) (fun c_1 => ?_)
  · refine lv_aload_n hx hb dX2_beginWait_21 rfl (lv_at hl 0 rfl) ?_
    refine fk_getK hx hb hts hiX2 hown hK hP 2 (by decide) (v := .int (S 12 0)) (by simp [fk_fK, fk_up]) (List.mem_of_getElem? (i := 3) rfl) rfl dX2_beginWait_22 ?_
    refine lv_iload hx hb dX2_beginWait_25 (lv_at hl 5 rfl) ?_
    refine lv_iadd hx hb dX2_beginWait_27 ?_
    refine fk_putT (v := ((S 12 0) + to)) hx hb hts hiX1 hown hK hP hD hS ht 5 (by decide) (by decide) (by simp [fk_fT, fk_up]) (List.mem_of_getElem? (i := 4) rfl) rfl rfl (by decide +kernel) dX2_beginWait_28 (fun H locs hP hD hS => ?_)
    refine lv_aload_n hx hb dX2_beginWait_31 rfl (lv_at hl 0 rfl) ?_
    refine lv_dup hx hb dX2_beginWait_32 rfl ?_
    refine fk_getK hx hb hts hiX2 hown hK hP 4 (by decide) (v := .int (S 12 2)) (by simp [fk_fK, fk_up]) (List.mem_of_getElem? (i := 5) rfl) rfl dX2_beginWait_33 ?_
    refine lv_iconst (v := 1) hx hb dX2_beginWait_36 (by decide) ?_
    refine lv_iadd hx hb dX2_beginWait_37 ?_
    refine fk_putK (v := ((S 12 2) + 1)) hx hb hts hiX2 hown hK hP hD hS 2 (by decide) (by simp [fk_fK, fk_up]) (List.mem_of_getElem? (i := 5) rfl) rfl rfl (by decide +kernel) dX2_beginWait_38 (fun H locs hP hD hS => ?_)
    refine lv_aload_n hx hb dX2_beginWait_41 rfl (lv_at hl 1 rfl) ?_
    refine lv_aload_n hx hb dX2_beginWait_42 rfl (lv_at hl 0 rfl) ?_
    refine fk_getK hx hb hts hiX2 hown hK hP 4 (by decide) (v := .int ((S 12 2) + 1)) (by simp [fk_fK, fk_up]) (List.mem_of_getElem? (i := 5) rfl) rfl dX2_beginWait_43 ?_
    refine fk_putT (v := ((S 12 2) + 1)) hx hb hts hiX1 hown hK hP hD hS ht 6 (by decide) (by decide) (by simp [fk_fT, fk_up]) (List.mem_of_getElem? (i := 6) rfl) rfl rfl (by decide +kernel) dX2_beginWait_46 (fun H locs hP hD hS => ?_)
    refine lv_aload_n hx hb dX2_beginWait_49 rfl (lv_at hl 0 rfl) ?_
    refine lv_aload_n hx hb dX2_beginWait_50 rfl (lv_at hl 1 rfl) ?_
    refine lv_iload_n hx hb dX2_beginWait_51 rfl (lv_at hl 3 rfl) ?_
    refine fk_callV (As := [.ref (ad (3 + t)), .int a]) (rest := []) ⟨hx, hb, hml, hown, hts⟩ (kc_joinQueue l D ad cI cT cJ X (fk_up (fk_up (fk_up (fk_up (fk_up S 1 t st) 4 t mk) 5 t ((S 12 0) + to)) 12 2 ((S 12 2) + 1)) 6 t ((S 12 2) + 1)) t a ht) (cwV 2 hts gX2_beginWait_X2_joinQueue rfl rfl rfl (by decide +kernel) ⟨Nat.le_of_ble_eq_true rfl, Nat.le_of_ble_eq_true rfl⟩) (fk_rvK hK hP) hK hP hD hS hA rfl hl.1 rfl (Nat.le_of_ble_eq_true rfl) dX2_beginWait_52 ⟨Nat.le_of_ble_eq_true rfl, Nat.le_of_ble_eq_true rfl⟩ (fun H locs hP hD hS => ?_)
    refine W.eq (g2 := F0 m 55 ls []) rfl ?_
    exact fk_vret hx hb hr hlocks hP hK hD hS (congrArg (fun z => fk_kW ad cI cT z ++ X) (by first | rfl | simp [kk_begin, c_1])) (by rfl) dX2_beginWait_55
  · refine lv_iconst (v := (-1)) hx hb dX2_beginWait_17 (by decide) ?_
    refine lv_goto (tgt := 28) hx hb dX2_beginWait_18 (by decide) ?_
    refine fk_putT (v := (-1)) hx hb hts hiX1 hown hK hP hD hS ht 5 (by decide) (by decide) (by simp [fk_fT, fk_up]) (List.mem_of_getElem? (i := 4) rfl) rfl rfl (by decide +kernel) dX2_beginWait_28 (fun H locs hP hD hS => ?_)
    refine lv_aload_n hx hb dX2_beginWait_31 rfl (lv_at hl 0 rfl) ?_
    refine lv_dup hx hb dX2_beginWait_32 rfl ?_
    refine fk_getK hx hb hts hiX2 hown hK hP 4 (by decide) (v := .int (S 12 2)) (by simp [fk_fK, fk_up]) (List.mem_of_getElem? (i := 5) rfl) rfl dX2_beginWait_33 ?_
    refine lv_iconst (v := 1) hx hb dX2_beginWait_36 (by decide) ?_
    refine lv_iadd hx hb dX2_beginWait_37 ?_
    refine fk_putK (v := ((S 12 2) + 1)) hx hb hts hiX2 hown hK hP hD hS 2 (by decide) (by simp [fk_fK, fk_up]) (List.mem_of_getElem? (i := 5) rfl) rfl rfl (by decide +kernel) dX2_beginWait_38 (fun H locs hP hD hS => ?_)
    refine lv_aload_n hx hb dX2_beginWait_41 rfl (lv_at hl 1 rfl) ?_
    refine lv_aload_n hx hb dX2_beginWait_42 rfl (lv_at hl 0 rfl) ?_
    refine fk_getK hx hb hts hiX2 hown hK hP 4 (by decide) (v := .int ((S 12 2) + 1)) (by simp [fk_fK, fk_up]) (List.mem_of_getElem? (i := 5) rfl) rfl dX2_beginWait_43 ?_
    refine fk_putT (v := ((S 12 2) + 1)) hx hb hts hiX1 hown hK hP hD hS ht 6 (by decide) (by decide) (by simp [fk_fT, fk_up]) (List.mem_of_getElem? (i := 6) rfl) rfl rfl (by decide +kernel) dX2_beginWait_46 (fun H locs hP hD hS => ?_)
    refine lv_aload_n hx hb dX2_beginWait_49 rfl (lv_at hl 0 rfl) ?_
    refine lv_aload_n hx hb dX2_beginWait_50 rfl (lv_at hl 1 rfl) ?_
    refine lv_iload_n hx hb dX2_beginWait_51 rfl (lv_at hl 3 rfl) ?_
    refine fk_callV (As := [.ref (ad (3 + t)), .int a]) (rest := []) ⟨hx, hb, hml, hown, hts⟩ (kc_joinQueue l D ad cI cT cJ X (fk_up (fk_up (fk_up (fk_up (fk_up S 1 t st) 4 t mk) 5 t (-1)) 12 2 ((S 12 2) + 1)) 6 t ((S 12 2) + 1)) t a ht) (cwV 2 hts gX2_beginWait_X2_joinQueue rfl rfl rfl (by decide +kernel) ⟨Nat.le_of_ble_eq_true rfl, Nat.le_of_ble_eq_true rfl⟩) (fk_rvK hK hP) hK hP hD hS hA rfl hl.1 rfl (Nat.le_of_ble_eq_true rfl) dX2_beginWait_52 ⟨Nat.le_of_ble_eq_true rfl, Nat.le_of_ble_eq_true rfl⟩ (fun H locs hP hD hS => ?_)
    refine W.eq (g2 := F0 m 55 ls []) rfl ?_
    exact fk_vret hx hb hr hlocks hP hK hD hS (congrArg (fun z => fk_kW ad cI cT z ++ X) (by first | rfl | simp [kk_begin, c_1])) (by rfl) dX2_beginWait_55

abbrev rmX2_leaveQueue : Room := { frames := 3, cells := 0, slots := 0, locals := 71 }
set_option maxHeartbeats 4000000 in
set_option maxRecDepth 100000 in
theorem kc_leaveQueue (l : Launch) (D : va_G) (ad : Nat → Nat) (cI cT cJ : ClassId) (X : va_W) (S : fk_S) (t : Nat) (ht : t < 8) : fk_C l D (fk_ty cI cT cJ) yX2_leaveQueue wsX2_leaveQueue rmX2_leaveQueue [.ref (ad 0), .ref (ad (3 + t))] (fk_kW ad cI cT S ++ X) none (fk_kW ad cI cT (kk_leave S t) ++ X) := by
  refine fk_C_of (cc := cX2_leaveQueue) (maxL := 4) (ret := none) (own := RX2) (by decide) rfl rfl (Nat.le_of_ble_eq_true rfl) ?_
  intro p e s m below meth c A ls hx hb hr hlocks hml hts hown hA hP hK hD hl
  have hS : va_S A s.heap s.heap [] := va_S.rf
  have hl : lv_has ls 4 [(0, .ref (ad 0)), (1, .ref (ad (3 + t)))] := hl
  have hiX1 : ∀ w ∈ u_ws RX1 TX1 11, w ∈ wsX2_leaveQueue := by decide +kernel
  have hiX2 : ∀ w ∈ u_ws RX2 TX2 6, w ∈ wsX2_leaveQueue := by decide +kernel
  refine lv_aload_n hx hb dX2_leaveQueue_0 rfl (lv_at hl 1 rfl) ?_
  refine fk_getT hx hb hts hiX1 hown hK hP ht 4 (by decide) (v := .int (S 3 t)) rfl (List.mem_of_getElem? (i := 1) rfl) rfl dX2_leaveQueue_1 ?_
  refine lv_istore_n (lv' := [(2, .int (S 3 t)), (0, .ref (ad 0)), (1, .ref (ad (3 + t)))]) hx hb dX2_leaveQueue_4 rfl hl (by decide) rfl (fun ls hl => ?_)
  refine lv_aload_n hx hb dX2_leaveQueue_5 rfl (lv_at hl 2 rfl) ?_
  refine fk_getT hx hb hts hiX1 hown hK hP ht 2 (by decide) (v := .int (S 1 t)) rfl (List.mem_of_getElem? (i := 2) rfl) rfl dX2_leaveQueue_6 ?_
  refine lv_iconst (v := 2) hx hb dX2_leaveQueue_9 (by decide) ?_
  refine lv_icmp_ne (tgt := 17) hx hb dX2_leaveQueue_10 (by decide) (fun c_1 => ?_) (fun c_1 => ?_)
  · refine lv_iconst (v := 0) hx hb dX2_leaveQueue_17 (by decide) ?_
    refine lv_istore_n (lv' := [(3, .int 0), (2, .int (S 3 t)), (0, .ref (ad 0)), (1, .ref (ad (3 + t)))]) hx hb dX2_leaveQueue_18 rfl hl (by decide) rfl (fun ls hl => ?_)
    refine lv_aload_n hx hb dX2_leaveQueue_19 rfl (lv_at hl 3 rfl) ?_
    refine lv_iconst (v := 0) hx hb dX2_leaveQueue_20 (by decide) ?_
    refine fk_putT (v := 0) hx hb hts hiX1 hown hK hP hD hS ht 1 (by decide) (by decide) (by simp [fk_fT, fk_up]) (List.mem_of_getElem? (i := 2) rfl) rfl rfl (by decide +kernel) dX2_leaveQueue_21 (fun H locs hP hD hS => ?_)
    refine lv_aload_n hx hb dX2_leaveQueue_24 rfl (lv_at hl 3 rfl) ?_
    refine lv_iconst (v := (-1)) hx hb dX2_leaveQueue_25 (by decide) ?_
    refine fk_putT (v := (-1)) hx hb hts hiX1 hown hK hP hD hS ht 3 (by decide) (by decide) (by simp [fk_fT, fk_up]) (List.mem_of_getElem? (i := 1) rfl) rfl rfl (by decide +kernel) dX2_leaveQueue_26 (fun H locs hP hD hS => ?_)
    refine lv_aload_n hx hb dX2_leaveQueue_29 rfl (lv_at hl 3 rfl) ?_
    refine lv_iconst (v := (-1)) hx hb dX2_leaveQueue_30 (by decide) ?_
    refine fk_putT (v := (-1)) hx hb hts hiX1 hown hK hP hD hS ht 5 (by decide) (by decide) (by simp [fk_fT, fk_up]) (List.mem_of_getElem? (i := 3) rfl) rfl rfl (by decide +kernel) dX2_leaveQueue_31 (fun H locs hP hD hS => ?_)
    refine lv_iload_n hx hb dX2_leaveQueue_34 rfl (lv_at hl 0 rfl) ?_
    refine lv_if_eq (tgt := 68) hx hb dX2_leaveQueue_35 (by decide) (fun _ => ?_) (fun c => absurd c (by decide))
    exact fk_vret hx hb hr hlocks hP hK hD hS (congrArg (fun z => fk_kW ad cI cT z ++ X) (by first | rfl | simp [kk_leave, kk_off, c_1])) (by rfl) dX2_leaveQueue_68
  · refine lv_iconst (v := 1) hx hb dX2_leaveQueue_13 (by decide) ?_
    refine lv_goto (tgt := 18) hx hb dX2_leaveQueue_14 (by decide) ?_
    refine lv_istore_n (lv' := [(3, .int 1), (2, .int (S 3 t)), (0, .ref (ad 0)), (1, .ref (ad (3 + t)))]) hx hb dX2_leaveQueue_18 rfl hl (by decide) rfl (fun ls hl => ?_)
    refine lv_aload_n hx hb dX2_leaveQueue_19 rfl (lv_at hl 3 rfl) ?_
    refine lv_iconst (v := 0) hx hb dX2_leaveQueue_20 (by decide) ?_
    refine fk_putT (v := 0) hx hb hts hiX1 hown hK hP hD hS ht 1 (by decide) (by decide) (by simp [fk_fT, fk_up]) (List.mem_of_getElem? (i := 2) rfl) rfl rfl (by decide +kernel) dX2_leaveQueue_21 (fun H locs hP hD hS => ?_)
    refine lv_aload_n hx hb dX2_leaveQueue_24 rfl (lv_at hl 3 rfl) ?_
    refine lv_iconst (v := (-1)) hx hb dX2_leaveQueue_25 (by decide) ?_
    refine fk_putT (v := (-1)) hx hb hts hiX1 hown hK hP hD hS ht 3 (by decide) (by decide) (by simp [fk_fT, fk_up]) (List.mem_of_getElem? (i := 1) rfl) rfl rfl (by decide +kernel) dX2_leaveQueue_26 (fun H locs hP hD hS => ?_)
    refine lv_aload_n hx hb dX2_leaveQueue_29 rfl (lv_at hl 3 rfl) ?_
    refine lv_iconst (v := (-1)) hx hb dX2_leaveQueue_30 (by decide) ?_
    refine fk_putT (v := (-1)) hx hb hts hiX1 hown hK hP hD hS ht 5 (by decide) (by decide) (by simp [fk_fT, fk_up]) (List.mem_of_getElem? (i := 3) rfl) rfl rfl (by decide +kernel) dX2_leaveQueue_31 (fun H locs hP hD hS => ?_)
    refine lv_iload_n hx hb dX2_leaveQueue_34 rfl (lv_at hl 0 rfl) ?_
    refine lv_if_eq (tgt := 68) hx hb dX2_leaveQueue_35 (by decide) (fun c => absurd c (by decide)) (fun _ => ?_)
    refine lv_iload_n hx hb dX2_leaveQueue_38 rfl (lv_at hl 1 rfl) ?_
    refine fk_callS (As := [.int (S 3 t)]) (rest := []) ⟨hx, hb, hml, hown, hts⟩ (kc_isAddress l D ad cI cT cJ X (fk_up (fk_up (fk_up S 1 t 0) 3 t (-1)) 5 t (-1)) (S 3 t)) (va_cwS 1 hts gX2_leaveQueue_X2_isAddress rfl rfl rfl (by decide +kernel) ⟨Nat.le_of_ble_eq_true rfl, Nat.le_of_ble_eq_true rfl⟩) hK hP hD hS hA rfl hl.1 rfl (Nat.le_of_ble_eq_true rfl) dX2_leaveQueue_39 ⟨Nat.le_of_ble_eq_true rfl, Nat.le_of_ble_eq_true rfl⟩ (fun H locs hP hD hS => ?_)
    cases b_4 : fk_isA (S 3 t) with
    | true =>
      refine W.eq (g2 := F0 m 42 ls [.int 1]) (by first | rfl | (rw [b_4]; rfl)) ?_
      refine lv_if_eq (tgt := 68) hx hb dX2_leaveQueue_42 (by decide) (fun c => absurd c (by decide)) (fun _ => ?_)
      refine lv_aload_n hx hb dX2_leaveQueue_45 rfl (lv_at hl 2 rfl) ?_
      refine lv_iload_n hx hb dX2_leaveQueue_46 rfl (lv_at hl 1 rfl) ?_
      refine fk_callV (As := [.int (S 3 t)]) (rest := []) ⟨hx, hb, hml, hown, hts⟩ (kc_firstLockingAt l D ad cI cT cJ X (fk_up (fk_up (fk_up S 1 t 0) 3 t (-1)) 5 t (-1)) (S 3 t)) (cwV 1 hts gX2_leaveQueue_X2_firstLockingAt rfl rfl rfl (by decide +kernel) ⟨Nat.le_of_ble_eq_true rfl, Nat.le_of_ble_eq_true rfl⟩) (fk_rvK hK hP) hK hP hD hS hA rfl hl.1 rfl (Nat.le_of_ble_eq_true rfl) dX2_leaveQueue_47 ⟨Nat.le_of_ble_eq_true rfl, Nat.le_of_ble_eq_true rfl⟩ (fun H locs hP hD hS => ?_)
      rcases o_6 : kk_lk (fk_up (fk_up (fk_up S 1 t 0) 3 t (-1)) 5 t (-1)) (S 3 t) with _ | u7
      · refine W.eq (g2 := F0 m 50 ls [.null]) (by first | rfl | (rw [o_6]; rfl)) ?_
        refine lv_ifnonnullN hx hb dX2_leaveQueue_50 ?_
        refine lv_aload_n hx hb dX2_leaveQueue_53 rfl (lv_at hl 2 rfl) ?_
        refine fk_getK hx hb hts hiX2 hown hK hP 0 (by decide) (v := .ref (ad 1)) rfl (List.mem_of_getElem? (i := 4) rfl) rfl dX2_leaveQueue_54 ?_
        refine lv_iload_n hx hb dX2_leaveQueue_57 rfl (lv_at hl 1 rfl) ?_
        refine lv_aload_n hx hb dX2_leaveQueue_58 rfl (lv_at hl 2 rfl) ?_
        refine fk_getK hx hb hts hiX2 hown hK hP 0 (by decide) (v := .ref (ad 1)) rfl (List.mem_of_getElem? (i := 4) rfl) rfl dX2_leaveQueue_59 ?_
        refine lv_iload_n hx hb dX2_leaveQueue_62 rfl (lv_at hl 1 rfl) ?_
        refine fk_ldW hx hb hK hP (fk_isA_in b_4) dX2_leaveQueue_63 ?_
        refine W.eq (g2 := F0 m 64 ls [.int (S 0 ((S 3 t).toNatClampNeg)), .int (S 3 t), .ref (ad 1)]) (by simp [fk_up]) ?_
        refine lv_ldc (own := RX2) (v := 2147483647) hx hb hown (hts (.constant RX2 218 (2147483647)) (List.mem_of_getElem? (i := 5) rfl)) dX2_leaveQueue_64 ?_
        refine lv_iand hx hb dX2_leaveQueue_66 ?_
        refine fk_stW hx hb hK hP hD hS (fk_isA_in b_4) dX2_leaveQueue_67 (fun H locs hP hD hS => ?_)
        exact fk_vret hx hb hr hlocks hP hK hD hS (congrArg (fun z => fk_kW ad cI cT z ++ X) (by first | rfl | simp [kk_leave, kk_off, c_1, b_4, o_6])) (by rfl) dX2_leaveQueue_68
      · have hu_8 : u7 < 8 := kk_lk_lt o_6
        refine W.eq (g2 := F0 m 50 ls [.ref (ad (3 + u7))]) (by first | rfl | (rw [o_6]; rfl)) ?_
        refine lv_ifnonnull (tgt := 68) hx hb dX2_leaveQueue_50 (by decide) ?_
        exact fk_vret hx hb hr hlocks hP hK hD hS (congrArg (fun z => fk_kW ad cI cT z ++ X) (by first | rfl | simp [kk_leave, kk_off, c_1, b_4, o_6])) (by rfl) dX2_leaveQueue_68
    | false =>
      refine W.eq (g2 := F0 m 42 ls [.int 0]) (by first | rfl | (rw [b_4]; rfl)) ?_
      refine lv_if_eq (tgt := 68) hx hb dX2_leaveQueue_42 (by decide) (fun _ => ?_) (fun c => absurd c (by decide))
      exact fk_vret hx hb hr hlocks hP hK hD hS (congrArg (fun z => fk_kW ad cI cT z ++ X) (by first | rfl | simp [kk_leave, kk_off, c_1, b_4])) (by rfl) dX2_leaveQueue_68

abbrev rmX2_endWait : Room := { frames := 4, cells := 0, slots := 0, locals := 94 }
set_option maxHeartbeats 4000000 in
set_option maxRecDepth 100000 in
theorem kc_endWait (l : Launch) (D : va_G) (ad : Nat → Nat) (cI cT cJ : ClassId) (X : va_W) (S : fk_S) (t : Nat) (r : Int32) (ht : t < 8) : fk_C l D (fk_ty cI cT cJ) yX2_endWait wsX2_endWait rmX2_endWait [.ref (ad 0), .ref (ad (3 + t)), .int r] (fk_kW ad cI cT S ++ X) none (fk_kW ad cI cT (kk_end S t r) ++ X) := by
  refine fk_C_of (cc := cX2_endWait) (maxL := 3) (ret := none) (own := RX2) (by decide) rfl rfl (Nat.le_of_ble_eq_true rfl) ?_
  intro p e s m below meth c A ls hx hb hr hlocks hml hts hown hA hP hK hD hl
  have hS : va_S A s.heap s.heap [] := va_S.rf
  have hl : lv_has ls 3 [(0, .ref (ad 0)), (1, .ref (ad (3 + t))), (2, .int r)] := hl
  have hiX1 : ∀ w ∈ u_ws RX1 TX1 11, w ∈ wsX2_endWait := by decide +kernel
  have hiX2 : ∀ w ∈ u_ws RX2 TX2 6, w ∈ wsX2_endWait := by decide +kernel
  refine lv_aload_n hx hb dX2_endWait_0 rfl (lv_at hl 0 rfl) ?_
  refine lv_aload_n hx hb dX2_endWait_1 rfl (lv_at hl 1 rfl) ?_
  refine fk_callV (As := [.ref (ad (3 + t))]) (rest := []) ⟨hx, hb, hml, hown, hts⟩ (kc_leaveQueue l D ad cI cT cJ X S t ht) (cwV 1 hts gX2_endWait_X2_leaveQueue rfl rfl rfl (by decide +kernel) ⟨Nat.le_of_ble_eq_true rfl, Nat.le_of_ble_eq_true rfl⟩) (fk_rvK hK hP) hK hP hD hS hA rfl hl.1 rfl (Nat.le_of_ble_eq_true rfl) dX2_endWait_2 ⟨Nat.le_of_ble_eq_true rfl, Nat.le_of_ble_eq_true rfl⟩ (fun H locs hP hD hS => ?_)
  refine W.eq (g2 := F0 m 5 ls []) rfl ?_
  refine lv_aload_n hx hb dX2_endWait_5 rfl (lv_at hl 1 rfl) ?_
  refine lv_iload_n hx hb dX2_endWait_6 rfl (lv_at hl 2 rfl) ?_
  refine fk_putT (v := r) hx hb hts hiX1 hown hK hP hD hS ht 8 (by decide) (by decide) (by simp [fk_fT, fk_up]) (List.mem_of_getElem? (i := 1) rfl) rfl rfl (by decide +kernel) dX2_endWait_7 (fun H locs hP hD hS => ?_)
  refine lv_aload_n hx hb dX2_endWait_10 rfl (lv_at hl 0 rfl) ?_
  refine lv_dup hx hb dX2_endWait_11 rfl ?_
  refine fk_getK hx hb hts hiX2 hown hK hP 3 (by decide) (v := .int ((kk_leave S t) 12 1)) (by simp [fk_fK, fk_up]) (List.mem_of_getElem? (i := 2) rfl) rfl dX2_endWait_12 ?_
  refine lv_iconst (v := 1) hx hb dX2_endWait_15 (by decide) ?_
  refine lv_iadd hx hb dX2_endWait_16 ?_
  refine fk_putK (v := (((kk_leave S t) 12 1) + 1)) hx hb hts hiX2 hown hK hP hD hS 1 (by decide) (by simp [fk_fK, fk_up]) (List.mem_of_getElem? (i := 2) rfl) rfl rfl (by decide +kernel) dX2_endWait_17 (fun H locs hP hD hS => ?_)
  refine lv_aload_n hx hb dX2_endWait_20 rfl (lv_at hl 1 rfl) ?_
  refine lv_aload_n hx hb dX2_endWait_21 rfl (lv_at hl 0 rfl) ?_
  refine fk_getK hx hb hts hiX2 hown hK hP 3 (by decide) (v := .int (((kk_leave S t) 12 1) + 1)) (by simp [fk_fK, fk_up]) (List.mem_of_getElem? (i := 2) rfl) rfl dX2_endWait_22 ?_
  refine fk_putT (v := (((kk_leave S t) 12 1) + 1)) hx hb hts hiX1 hown hK hP hD hS ht 9 (by decide) (by decide) (by simp [fk_fT, fk_up]) (List.mem_of_getElem? (i := 3) rfl) rfl rfl (by decide +kernel) dX2_endWait_25 (fun H locs hP hD hS => ?_)
  exact fk_vret hx hb hr hlocks hP hK hD hS (congrArg (fun z => fk_kW ad cI cT z ++ X) (by rfl)) (by rfl) dX2_endWait_28
end
section
abbrev rmX2_wakeFirst : Room := { frames := 5, cells := 0, slots := 0, locals := 116 }
set_option maxHeartbeats 4000000 in
set_option maxRecDepth 100000 in
theorem kc_wakeFirst (l : Launch) (D : va_G) (ad : Nat → Nat) (cI cT cJ : ClassId) (X : va_W) (S : fk_S) (a mk : Int32) (k : Nat) (hk : k ≤ 8) : fk_C l D (fk_ty cI cT cJ) yX2_wakeFirst wsX2_wakeFirst rmX2_wakeFirst [.ref (ad 0), .int a, .int (nI k), .int mk] (fk_kW ad cI cT S ++ X) (some (.int (nI (kk_wake a mk k S).1))) (fk_kW ad cI cT (kk_wake a mk k S).2 ++ X) := by
  refine fk_C_of (cc := cX2_wakeFirst) (maxL := 6) (ret := (some .int)) (own := RX2) (by decide) rfl rfl (Nat.le_of_ble_eq_true rfl) ?_
  intro p e s m below meth c A ls hx hb hr hlocks hml hts hown hA hP hK hD hl
  have hS : va_S A s.heap s.heap [] := va_S.rf
  have hl : lv_has ls 6 [(0, .ref (ad 0)), (1, .int a), (2, .int (nI k)), (3, .int mk)] := hl
  refine lv_iconst (v := 0) hx hb dX2_wakeFirst_0 (by decide) ?_
  refine lv_istore (lv' := [(4, .int 0), (0, .ref (ad 0)), (1, .int a), (2, .int (nI k)), (3, .int mk)]) hx hb dX2_wakeFirst_1 hl (by decide) rfl (fun ls hl => ?_)
  have loop : ∀ (n : Nat) (i : Nat) (S1 : fk_S), i + n = k → (kk_wake a mk n S1).2 = (kk_wake a mk k S).2 → i + (kk_wake a mk n S1).1 = (kk_wake a mk k S).1 → ∀ (H : Heap) (locs : List Loc) (ls : Array Slot), va_P D vwCl (fk_kW ad cI cT S1 ++ X) H → va_D A (fk_kW ad cI cT S1 ++ X) → va_S A s.heap H locs → lv_has ls 6 [(4, .int (nI i)), (0, .ref (ad 0)), (1, .int a), (2, .int (nI k)), (3, .int mk)] → W p l e rmX2_wakeFirst s m ([.ref (ad 0), .int a, .int (nI k), .int mk] : List Value).toArray below meth c H locs 0 0 (fk_Q below D (fk_ty cI cT cJ) [.ref (ad 0), .int a, .int (nI k), .int mk] s A (fk_kW ad cI cT (kk_wake a mk k S).2 ++ X) (some (.int (nI (kk_wake a mk k S).1)))) (F0 m 3 ls []) := by
    intro n
    induction n with
    | zero =>
      intro i S1 hi h2 h1 H locs ls hP hD hS hl
      refine lv_iload hx hb dX2_wakeFirst_3 (lv_at hl 0 rfl) ?_
      refine lv_iload_n hx hb dX2_wakeFirst_5 rfl (lv_at hl 3 rfl) ?_
      refine lv_icmp_ge (tgt := 39) hx hb dX2_wakeFirst_6 (by decide) (fun c_1 => ?_) (fun c_1 => absurd (nI_le (a := k) (b := i) (by omega) (by omega)) c_1)
      refine lv_iload_n hx hb dX2_wakeFirst_39 rfl (lv_at hl 3 rfl) ?_
      exact fk_iret hx hb hr hlocks hP hK hD hS (congrArg (fun z => fk_kW ad cI cT z ++ X) (by rw [← h2]; rfl)) (by rw [← h1, show i + (kk_wake a mk 0 S1).1 = k from by simp only [kk_wake]; omega]) dX2_wakeFirst_40
    | succ n ih =>
      intro i S1 hi h2 h1 H locs ls hP hD hS hl
      refine lv_iload hx hb dX2_wakeFirst_3 (lv_at hl 0 rfl) ?_
      refine lv_iload_n hx hb dX2_wakeFirst_5 rfl (lv_at hl 3 rfl) ?_
      refine lv_icmp_ge (tgt := 39) hx hb dX2_wakeFirst_6 (by decide) (fun c_2 => absurd c_2 (nI_ge (a := i) (b := k) (by omega) (by omega))) (fun c_2 => ?_)
      refine lv_aload_n hx hb dX2_wakeFirst_9 rfl (lv_at hl 1 rfl) ?_
      refine lv_iload_n hx hb dX2_wakeFirst_10 rfl (lv_at hl 2 rfl) ?_
      refine lv_iconst (v := 1) hx hb dX2_wakeFirst_11 (by decide) ?_
      refine lv_iload_n hx hb dX2_wakeFirst_12 rfl (lv_at hl 4 rfl) ?_
      refine fk_callV (As := [.int a, .int 1, .int mk]) (rest := []) ⟨hx, hb, hml, hown, hts⟩ (kc_firstAt l D ad cI cT cJ X S1 a 1 mk) (cwV 3 hts gX2_wakeFirst_X2_firstAt rfl rfl rfl (by decide +kernel) ⟨Nat.le_of_ble_eq_true rfl, Nat.le_of_ble_eq_true rfl⟩) (fk_rvK hK hP) hK hP hD hS hA rfl hl.1 rfl (Nat.le_of_ble_eq_true rfl) dX2_wakeFirst_13 ⟨Nat.le_of_ble_eq_true rfl, Nat.le_of_ble_eq_true rfl⟩ (fun H locs hP hD hS => ?_)
      rcases o_3 : kk_first S1 a 1 mk with _ | u4
      · refine W.eq (g2 := F0 m 16 ls [.null]) (by first | rfl | (rw [o_3]; rfl)) ?_
        refine lv_astoreN (lv' := [(5, .null), (4, .int (nI i)), (0, .ref (ad 0)), (1, .int a), (2, .int (nI k)), (3, .int mk)]) hx hb dX2_wakeFirst_16 hl (by decide) rfl (fun ls hl => ?_)
        refine lv_aloadN hx hb dX2_wakeFirst_18 (lv_at hl 0 rfl) ?_
        refine lv_ifnonnullN hx hb dX2_wakeFirst_20 ?_
        refine lv_iload hx hb dX2_wakeFirst_23 (lv_at hl 1 rfl) ?_
        exact fk_iret hx hb hr hlocks hP hK hD hS (congrArg (fun z => fk_kW ad cI cT z ++ X) (by rw [← h2]; simp only [kk_wake, o_3])) (by rw [← h1]; simp only [kk_wake, o_3]; rfl) dX2_wakeFirst_25
      · have hu_5 : u4 < 8 := kk_first_lt o_3
        refine W.eq (g2 := F0 m 16 ls [.ref (ad (3 + u4))]) (by first | rfl | (rw [o_3]; rfl)) ?_
        refine lv_astore (lv' := [(5, .ref (ad (3 + u4))), (4, .int (nI i)), (0, .ref (ad 0)), (1, .int a), (2, .int (nI k)), (3, .int mk)]) hx hb dX2_wakeFirst_16 hl (by decide) rfl (fun ls hl => ?_)
        refine lv_aload hx hb dX2_wakeFirst_18 (lv_at hl 0 rfl) ?_
        refine lv_ifnonnull (tgt := 26) hx hb dX2_wakeFirst_20 (by decide) ?_
        refine lv_aload_n hx hb dX2_wakeFirst_26 rfl (lv_at hl 2 rfl) ?_
        refine lv_aload hx hb dX2_wakeFirst_27 (lv_at hl 0 rfl) ?_
        refine lv_iconst (v := 0) hx hb dX2_wakeFirst_29 (by decide) ?_
        refine fk_callV (As := [.ref (ad (3 + u4)), .int 0]) (rest := []) ⟨hx, hb, hml, hown, hts⟩ (kc_endWait l D ad cI cT cJ X S1 u4 0 hu_5) (cwV 2 hts gX2_wakeFirst_X2_endWait rfl rfl rfl (by decide +kernel) ⟨Nat.le_of_ble_eq_true rfl, Nat.le_of_ble_eq_true rfl⟩) (fk_rvK hK hP) hK hP hD hS hA rfl hl.1 rfl (Nat.le_of_ble_eq_true rfl) dX2_wakeFirst_30 ⟨Nat.le_of_ble_eq_true rfl, Nat.le_of_ble_eq_true rfl⟩ (fun H locs hP hD hS => ?_)
        refine W.eq (g2 := F0 m 33 ls []) rfl ?_
        refine lv_iinc (v := (nI (i + 1))) (lv' := [(4, .int (nI (i + 1))), (5, .ref (ad (3 + u4))), (0, .ref (ad 0)), (1, .int a), (2, .int (nI k)), (3, .int mk)]) hx hb dX2_wakeFirst_33 hl (k := 1) rfl (nI_1 i) (by decide) rfl (fun ls hl => ?_)
        refine lv_goto (tgt := 3) hx hb dX2_wakeFirst_36 (by decide) ?_
        exact ih (i + 1) (kk_end S1 u4 0) (by omega) (by rw [← h2]; simp only [kk_wake, o_3]) (by rw [← h1]; simp only [kk_wake, o_3]; omega) _ _ _ hP hD hS (lv_sub hl [0, 2, 3, 4, 5] rfl)
  exact loop k 0 S (by omega) rfl (by omega) _ _ _ hP hD hS (lv_sub hl [0, 1, 2, 3, 4] rfl)

abbrev rmX2_moveFirst : Room := { frames := 2, cells := 0, slots := 0, locals := 50 }
set_option maxHeartbeats 4000000 in
set_option maxRecDepth 100000 in
theorem kc_moveFirst (l : Launch) (D : va_G) (ad : Nat → Nat) (cI cT cJ : ClassId) (X : va_W) (S : fk_S) (a b : Int32) (k : Nat) (hk : k ≤ 8) : fk_C l D (fk_ty cI cT cJ) yX2_moveFirst wsX2_moveFirst rmX2_moveFirst [.ref (ad 0), .int a, .int b, .int (nI k)] (fk_kW ad cI cT S ++ X) (some (.int (nI (kk_move a b k S).1))) (fk_kW ad cI cT (kk_move a b k S).2 ++ X) := by
  refine fk_C_of (cc := cX2_moveFirst) (maxL := 6) (ret := (some .int)) (own := RX2) (by decide) rfl rfl (Nat.le_of_ble_eq_true rfl) ?_
  intro p e s m below meth c A ls hx hb hr hlocks hml hts hown hA hP hK hD hl
  have hS : va_S A s.heap s.heap [] := va_S.rf
  have hl : lv_has ls 6 [(0, .ref (ad 0)), (1, .int a), (2, .int b), (3, .int (nI k))] := hl
  refine lv_iconst (v := 0) hx hb dX2_moveFirst_0 (by decide) ?_
  refine lv_istore (lv' := [(4, .int 0), (0, .ref (ad 0)), (1, .int a), (2, .int b), (3, .int (nI k))]) hx hb dX2_moveFirst_1 hl (by decide) rfl (fun ls hl => ?_)
  have loop : ∀ (n : Nat) (i : Nat) (S1 : fk_S), i + n = k → (kk_move a b n S1).2 = (kk_move a b k S).2 → i + (kk_move a b n S1).1 = (kk_move a b k S).1 → ∀ (H : Heap) (locs : List Loc) (ls : Array Slot), va_P D vwCl (fk_kW ad cI cT S1 ++ X) H → va_D A (fk_kW ad cI cT S1 ++ X) → va_S A s.heap H locs → lv_has ls 6 [(4, .int (nI i)), (0, .ref (ad 0)), (1, .int a), (2, .int b), (3, .int (nI k))] → W p l e rmX2_moveFirst s m ([.ref (ad 0), .int a, .int b, .int (nI k)] : List Value).toArray below meth c H locs 0 0 (fk_Q below D (fk_ty cI cT cJ) [.ref (ad 0), .int a, .int b, .int (nI k)] s A (fk_kW ad cI cT (kk_move a b k S).2 ++ X) (some (.int (nI (kk_move a b k S).1)))) (F0 m 3 ls []) := by
    intro n
    induction n with
    | zero =>
      intro i S1 hi h2 h1 H locs ls hP hD hS hl
      refine lv_iload hx hb dX2_moveFirst_3 (lv_at hl 0 rfl) ?_
      refine lv_iload_n hx hb dX2_moveFirst_5 rfl (lv_at hl 4 rfl) ?_
      refine lv_icmp_ge (tgt := 41) hx hb dX2_moveFirst_6 (by decide) (fun c_1 => ?_) (fun c_1 => absurd (nI_le (a := k) (b := i) (by omega) (by omega)) c_1)
      refine lv_iload_n hx hb dX2_moveFirst_41 rfl (lv_at hl 4 rfl) ?_
      exact fk_iret hx hb hr hlocks hP hK hD hS (congrArg (fun z => fk_kW ad cI cT z ++ X) (by rw [← h2]; rfl)) (by rw [← h1, show i + (kk_move a b 0 S1).1 = k from by simp only [kk_move]; omega]) dX2_moveFirst_42
    | succ n ih =>
      intro i S1 hi h2 h1 H locs ls hP hD hS hl
      refine lv_iload hx hb dX2_moveFirst_3 (lv_at hl 0 rfl) ?_
      refine lv_iload_n hx hb dX2_moveFirst_5 rfl (lv_at hl 4 rfl) ?_
      refine lv_icmp_ge (tgt := 41) hx hb dX2_moveFirst_6 (by decide) (fun c_2 => absurd c_2 (nI_ge (a := i) (b := k) (by omega) (by omega))) (fun c_2 => ?_)
      refine lv_aload_n hx hb dX2_moveFirst_9 rfl (lv_at hl 1 rfl) ?_
      refine lv_iload_n hx hb dX2_moveFirst_10 rfl (lv_at hl 2 rfl) ?_
      refine lv_iconst (v := 1) hx hb dX2_moveFirst_11 (by decide) ?_
      refine lv_sipush (v := 255) hx hb dX2_moveFirst_12 (by decide) ?_
      refine fk_callV (As := [.int a, .int 1, .int 255]) (rest := []) ⟨hx, hb, hml, hown, hts⟩ (kc_firstAt l D ad cI cT cJ X S1 a 1 255) (cwV 3 hts gX2_moveFirst_X2_firstAt rfl rfl rfl (by decide +kernel) ⟨Nat.le_of_ble_eq_true rfl, Nat.le_of_ble_eq_true rfl⟩) (fk_rvK hK hP) hK hP hD hS hA rfl hl.1 rfl (Nat.le_of_ble_eq_true rfl) dX2_moveFirst_15 ⟨Nat.le_of_ble_eq_true rfl, Nat.le_of_ble_eq_true rfl⟩ (fun H locs hP hD hS => ?_)
      rcases o_3 : kk_first S1 a 1 255 with _ | u4
      · refine W.eq (g2 := F0 m 18 ls [.null]) (by first | rfl | (rw [o_3]; rfl)) ?_
        refine lv_astoreN (lv' := [(5, .null), (4, .int (nI i)), (0, .ref (ad 0)), (1, .int a), (2, .int b), (3, .int (nI k))]) hx hb dX2_moveFirst_18 hl (by decide) rfl (fun ls hl => ?_)
        refine lv_aloadN hx hb dX2_moveFirst_20 (lv_at hl 0 rfl) ?_
        refine lv_ifnonnullN hx hb dX2_moveFirst_22 ?_
        refine lv_iload hx hb dX2_moveFirst_25 (lv_at hl 1 rfl) ?_
        exact fk_iret hx hb hr hlocks hP hK hD hS (congrArg (fun z => fk_kW ad cI cT z ++ X) (by rw [← h2]; simp only [kk_move, o_3])) (by rw [← h1]; simp only [kk_move, o_3]; rfl) dX2_moveFirst_27
      · have hu_5 : u4 < 8 := kk_first_lt o_3
        refine W.eq (g2 := F0 m 18 ls [.ref (ad (3 + u4))]) (by first | rfl | (rw [o_3]; rfl)) ?_
        refine lv_astore (lv' := [(5, .ref (ad (3 + u4))), (4, .int (nI i)), (0, .ref (ad 0)), (1, .int a), (2, .int b), (3, .int (nI k))]) hx hb dX2_moveFirst_18 hl (by decide) rfl (fun ls hl => ?_)
        refine lv_aload hx hb dX2_moveFirst_20 (lv_at hl 0 rfl) ?_
        refine lv_ifnonnull (tgt := 28) hx hb dX2_moveFirst_22 (by decide) ?_
        refine lv_aload_n hx hb dX2_moveFirst_28 rfl (lv_at hl 2 rfl) ?_
        refine lv_aload hx hb dX2_moveFirst_29 (lv_at hl 0 rfl) ?_
        refine lv_iload_n hx hb dX2_moveFirst_31 rfl (lv_at hl 4 rfl) ?_
        refine fk_callV (As := [.ref (ad (3 + u4)), .int b]) (rest := []) ⟨hx, hb, hml, hown, hts⟩ (kc_joinQueue l D ad cI cT cJ X S1 u4 b hu_5) (cwV 2 hts gX2_moveFirst_X2_joinQueue rfl rfl rfl (by decide +kernel) ⟨Nat.le_of_ble_eq_true rfl, Nat.le_of_ble_eq_true rfl⟩) (fk_rvK hK hP) hK hP hD hS hA rfl hl.1 rfl (Nat.le_of_ble_eq_true rfl) dX2_moveFirst_32 ⟨Nat.le_of_ble_eq_true rfl, Nat.le_of_ble_eq_true rfl⟩ (fun H locs hP hD hS => ?_)
        refine W.eq (g2 := F0 m 35 ls []) rfl ?_
        refine lv_iinc (v := (nI (i + 1))) (lv' := [(4, .int (nI (i + 1))), (5, .ref (ad (3 + u4))), (0, .ref (ad 0)), (1, .int a), (2, .int b), (3, .int (nI k))]) hx hb dX2_moveFirst_35 hl (k := 1) rfl (nI_1 i) (by decide) rfl (fun ls hl => ?_)
        refine lv_goto (tgt := 3) hx hb dX2_moveFirst_38 (by decide) ?_
        exact ih (i + 1) (kk_join S1 u4 b) (by omega) (by rw [← h2]; simp only [kk_move, o_3]) (by rw [← h1]; simp only [kk_move, o_3]; omega) _ _ _ hP hD hS (lv_sub hl [0, 2, 3, 4, 5] rfl)
  exact loop k 0 S (by omega) rfl (by omega) _ _ _ hP hD hS (lv_sub hl [0, 1, 2, 3, 4] rfl)

abbrev rmX2_giveLock : Room := { frames := 3, cells := 0, slots := 0, locals := 71 }
set_option maxHeartbeats 4000000 in
set_option maxRecDepth 100000 in
theorem kc_giveLock (l : Launch) (D : va_G) (ad : Nat → Nat) (cI cT cJ : ClassId) (X : va_W) (S : fk_S) (t : Nat) (a died : Int32) (ht : t < 8) (hsz : fk_sz S) : fk_C l D (fk_ty cI cT cJ) yX2_giveLock wsX2_giveLock rmX2_giveLock [.ref (ad 0), .ref (ad (3 + t)), .int a, .int died] (fk_kW ad cI cT S ++ X) none (fk_kW ad cI cT (kk_give S t a died) ++ X) := by
  refine fk_C_of (cc := cX2_giveLock) (maxL := 5) (ret := none) (own := RX2) (by decide) rfl rfl (Nat.le_of_ble_eq_true rfl) ?_
  intro p e s m below meth c A ls hx hb hr hlocks hml hts hown hA hP hK hD hl
  have hS : va_S A s.heap s.heap [] := va_S.rf
  have hl : lv_has ls 5 [(0, .ref (ad 0)), (1, .ref (ad (3 + t))), (2, .int a), (3, .int died)] := hl
  have hiX1 : ∀ w ∈ u_ws RX1 TX1 11, w ∈ wsX2_giveLock := by decide +kernel
  have hiX2 : ∀ w ∈ u_ws RX2 TX2 6, w ∈ wsX2_giveLock := by decide +kernel
  refine lv_iload_n hx hb dX2_giveLock_0 rfl (lv_at hl 2 rfl) ?_
  refine fk_callS (As := [.int a]) (rest := []) ⟨hx, hb, hml, hown, hts⟩ (kc_isAddress l D ad cI cT cJ X S a) (va_cwS 1 hts gX2_giveLock_X2_isAddress rfl rfl rfl (by decide +kernel) ⟨Nat.le_of_ble_eq_true rfl, Nat.le_of_ble_eq_true rfl⟩) hK hP hD hS hA rfl hl.1 rfl (Nat.le_of_ble_eq_true rfl) dX2_giveLock_1 ⟨Nat.le_of_ble_eq_true rfl, Nat.le_of_ble_eq_true rfl⟩ (fun H locs hP hD hS => ?_)
  cases b_1 : fk_isA a with
  | true =>
    refine W.eq (g2 := F0 m 4 ls [.int 1]) (by first | rfl | (rw [b_1]; rfl)) ?_
    refine lv_if_eq (tgt := 48) hx hb dX2_giveLock_4 (by decide) (fun c => absurd c (by decide)) (fun _ => ?_)
    refine lv_aload_n hx hb dX2_giveLock_7 rfl (lv_at hl 0 rfl) ?_
    refine lv_iload_n hx hb dX2_giveLock_8 rfl (lv_at hl 2 rfl) ?_
    refine fk_callV (As := [.int a]) (rest := []) ⟨hx, hb, hml, hown, hts⟩ (kc_firstLockingAt l D ad cI cT cJ X S a) (cwV 1 hts gX2_giveLock_X2_firstLockingAt rfl rfl rfl (by decide +kernel) ⟨Nat.le_of_ble_eq_true rfl, Nat.le_of_ble_eq_true rfl⟩) (fk_rvK hK hP) hK hP hD hS hA rfl hl.1 rfl (Nat.le_of_ble_eq_true rfl) dX2_giveLock_9 ⟨Nat.le_of_ble_eq_true rfl, Nat.le_of_ble_eq_true rfl⟩ (fun H locs hP hD hS => ?_)
    rcases o_3 : kk_lk S a with _ | u4
    · refine W.eq (g2 := F0 m 12 ls [.null]) (by first | rfl | (rw [o_3]; rfl)) ?_
      refine lv_ifnonnullN hx hb dX2_giveLock_12 ?_
      refine lv_iconst (v := 0) hx hb dX2_giveLock_15 (by decide) ?_
      refine lv_goto (tgt := 21) hx hb dX2_giveLock_16 (by decide) ?_
      refine lv_istore (lv' := [(4, .int 0), (0, .ref (ad 0)), (1, .ref (ad (3 + t))), (2, .int a), (3, .int died)]) hx hb dX2_giveLock_21 hl (by decide) rfl (fun ls hl => ?_)
      refine lv_aload_n hx hb dX2_giveLock_23 rfl (lv_at hl 1 rfl) ?_
      refine fk_getK hx hb hts hiX2 hown hK hP 0 (by decide) (v := .ref (ad 1)) rfl (List.mem_of_getElem? (i := 2) rfl) rfl dX2_giveLock_24 ?_
      refine lv_iload_n hx hb dX2_giveLock_27 rfl (lv_at hl 3 rfl) ?_
      refine lv_aload_n hx hb dX2_giveLock_28 rfl (lv_at hl 2 rfl) ?_
      refine fk_getT hx hb hts hiX1 hown hK hP ht 0 (by decide) (v := .int (nI t)) rfl (List.mem_of_getElem? (i := 3) rfl) rfl dX2_giveLock_29 ?_
      refine lv_iconst (v := 1) hx hb dX2_giveLock_32 (by decide) ?_
      refine lv_iadd hx hb dX2_giveLock_33 ?_
      refine W.eq (g2 := F0 m 34 ls [.int (nI (t + 1)), .int a, .ref (ad 1)]) (by rw [nI_1]) ?_
      refine lv_iload_n hx hb dX2_giveLock_34 rfl (lv_at hl 4 rfl) ?_
      refine lv_ior hx hb dX2_giveLock_35 ?_
      refine lv_iload hx hb dX2_giveLock_36 (lv_at hl 0 rfl) ?_
      refine lv_ior hx hb dX2_giveLock_38 ?_
      refine fk_stW hx hb hK hP hD hS (fk_isA_in b_1) dX2_giveLock_39 (fun H locs hP hD hS => ?_)
      refine lv_aload_n hx hb dX2_giveLock_40 rfl (lv_at hl 2 rfl) ?_
      refine fk_getT hx hb hts hiX1 hown hK hP ht 1 (by decide) (v := .ref (ad (11 + t))) rfl (List.mem_of_getElem? (i := 4) rfl) rfl dX2_giveLock_41 ?_
      refine lv_iload_n hx hb dX2_giveLock_44 rfl (lv_at hl 3 rfl) ?_
      refine fk_callV (As := [.int a]) (rest := []) ⟨hx, hb, hml, hown, hts⟩ (kc_add l D ad cI cT cJ X (fk_up S 0 a.toNatClampNeg (((nI (t + 1)) ||| died) ||| 0)) t a ht (fk_sz_of (fk_up_10 (by decide)) hsz)) (cwV 1 hts gX2_giveLock_X0_add rfl rfl rfl (by decide +kernel) ⟨Nat.le_of_ble_eq_true rfl, Nat.le_of_ble_eq_true rfl⟩) (fk_rvL hK hP ht) hK hP hD hS hA rfl hl.1 rfl (Nat.le_of_ble_eq_true rfl) dX2_giveLock_45 ⟨Nat.le_of_ble_eq_true rfl, Nat.le_of_ble_eq_true rfl⟩ (fun H locs hP hD hS => ?_)
      refine W.eq (g2 := F0 m 48 ls []) rfl ?_
      exact fk_vret hx hb hr hlocks hP hK hD hS (congrArg (fun z => fk_kW ad cI cT z ++ X) (by first | rfl | simp [kk_give, kk_word, b_1, o_3])) (by rfl) dX2_giveLock_48
    · have hu_5 : u4 < 8 := kk_lk_lt o_3
      refine W.eq (g2 := F0 m 12 ls [.ref (ad (3 + u4))]) (by first | rfl | (rw [o_3]; rfl)) ?_
      refine lv_ifnonnull (tgt := 19) hx hb dX2_giveLock_12 (by decide) ?_
      refine lv_ldc (own := RX2) (v := (-2147483648)) hx hb hown (hts (.constant RX2 83 (-2147483648)) (List.mem_of_getElem? (i := 1) rfl)) dX2_giveLock_19 ?_
      refine lv_istore (lv' := [(4, .int (-2147483648)), (0, .ref (ad 0)), (1, .ref (ad (3 + t))), (2, .int a), (3, .int died)]) hx hb dX2_giveLock_21 hl (by decide) rfl (fun ls hl => ?_)
      refine lv_aload_n hx hb dX2_giveLock_23 rfl (lv_at hl 1 rfl) ?_
      refine fk_getK hx hb hts hiX2 hown hK hP 0 (by decide) (v := .ref (ad 1)) rfl (List.mem_of_getElem? (i := 2) rfl) rfl dX2_giveLock_24 ?_
      refine lv_iload_n hx hb dX2_giveLock_27 rfl (lv_at hl 3 rfl) ?_
      refine lv_aload_n hx hb dX2_giveLock_28 rfl (lv_at hl 2 rfl) ?_
      refine fk_getT hx hb hts hiX1 hown hK hP ht 0 (by decide) (v := .int (nI t)) rfl (List.mem_of_getElem? (i := 3) rfl) rfl dX2_giveLock_29 ?_
      refine lv_iconst (v := 1) hx hb dX2_giveLock_32 (by decide) ?_
      refine lv_iadd hx hb dX2_giveLock_33 ?_
      refine W.eq (g2 := F0 m 34 ls [.int (nI (t + 1)), .int a, .ref (ad 1)]) (by rw [nI_1]) ?_
      refine lv_iload_n hx hb dX2_giveLock_34 rfl (lv_at hl 4 rfl) ?_
      refine lv_ior hx hb dX2_giveLock_35 ?_
      refine lv_iload hx hb dX2_giveLock_36 (lv_at hl 0 rfl) ?_
      refine lv_ior hx hb dX2_giveLock_38 ?_
      refine fk_stW hx hb hK hP hD hS (fk_isA_in b_1) dX2_giveLock_39 (fun H locs hP hD hS => ?_)
      refine lv_aload_n hx hb dX2_giveLock_40 rfl (lv_at hl 2 rfl) ?_
      refine fk_getT hx hb hts hiX1 hown hK hP ht 1 (by decide) (v := .ref (ad (11 + t))) rfl (List.mem_of_getElem? (i := 4) rfl) rfl dX2_giveLock_41 ?_
      refine lv_iload_n hx hb dX2_giveLock_44 rfl (lv_at hl 3 rfl) ?_
      refine fk_callV (As := [.int a]) (rest := []) ⟨hx, hb, hml, hown, hts⟩ (kc_add l D ad cI cT cJ X (fk_up S 0 a.toNatClampNeg (((nI (t + 1)) ||| died) ||| (-2147483648))) t a ht (fk_sz_of (fk_up_10 (by decide)) hsz)) (cwV 1 hts gX2_giveLock_X0_add rfl rfl rfl (by decide +kernel) ⟨Nat.le_of_ble_eq_true rfl, Nat.le_of_ble_eq_true rfl⟩) (fk_rvL hK hP ht) hK hP hD hS hA rfl hl.1 rfl (Nat.le_of_ble_eq_true rfl) dX2_giveLock_45 ⟨Nat.le_of_ble_eq_true rfl, Nat.le_of_ble_eq_true rfl⟩ (fun H locs hP hD hS => ?_)
      refine W.eq (g2 := F0 m 48 ls []) rfl ?_
      exact fk_vret hx hb hr hlocks hP hK hD hS (congrArg (fun z => fk_kW ad cI cT z ++ X) (by first | rfl | simp [kk_give, kk_word, b_1, o_3])) (by rfl) dX2_giveLock_48
  | false =>
    refine W.eq (g2 := F0 m 4 ls [.int 0]) (by first | rfl | (rw [b_1]; rfl)) ?_
    refine lv_if_eq (tgt := 48) hx hb dX2_giveLock_4 (by decide) (fun _ => ?_) (fun c => absurd c (by decide))
    exact fk_vret hx hb hr hlocks hP hK hD hS (congrArg (fun z => fk_kW ad cI cT z ++ X) (by first | rfl | simp [kk_give, kk_word, b_1])) (by rfl) dX2_giveLock_48

abbrev rmX2_passOn : Room := { frames := 5, cells := 0, slots := 0, locals := 116 }
set_option maxHeartbeats 4000000 in
set_option maxRecDepth 100000 in
theorem kc_passOn (l : Launch) (D : va_G) (ad : Nat → Nat) (cI cT cJ : ClassId) (X : va_W) (S : fk_S) (a : Int32) (b : Bool) (hsz : fk_sz S) : fk_C l D (fk_ty cI cT cJ) yX2_passOn wsX2_passOn rmX2_passOn [.ref (ad 0), .int a, .int (fk_b b)] (fk_kW ad cI cT S ++ X) (some (.int (fk_oI (kk_lk S a)))) (fk_kW ad cI cT (kk_pass S a b) ++ X) := by
  refine fk_C_of (cc := cX2_passOn) (maxL := 5) (ret := (some .int)) (own := RX2) (by decide) rfl rfl (Nat.le_of_ble_eq_true rfl) ?_
  intro p e s m below meth c A ls hx hb hr hlocks hml hts hown hA hP hK hD hl
  have hS : va_S A s.heap s.heap [] := va_S.rf
  have hl : lv_has ls 5 [(0, .ref (ad 0)), (1, .int a), (2, .int (fk_b b))] := hl
  have hiX1 : ∀ w ∈ u_ws RX1 TX1 11, w ∈ wsX2_passOn := by decide +kernel
  have hiX2 : ∀ w ∈ u_ws RX2 TX2 6, w ∈ wsX2_passOn := by decide +kernel
  cases b with
  | true =>
    have hl : lv_has ls 5 [(0, .ref (ad 0)), (1, .int a), (2, .int 1)] := hl
    refine lv_iload_n hx hb dX2_passOn_0 rfl (lv_at hl 2 rfl) ?_
    refine lv_if_eq (tgt := 9) hx hb dX2_passOn_1 (by decide) (fun c => absurd c (by decide)) (fun _ => ?_)
    refine lv_ldc (own := RX2) (v := 1073741824) hx hb hown (hts (.constant RX2 68 (1073741824)) (List.mem_of_getElem? (i := 1) rfl)) dX2_passOn_4 ?_
    refine lv_goto (tgt := 10) hx hb dX2_passOn_6 (by decide) ?_
    refine lv_istore_n (lv' := [(3, .int 1073741824), (0, .ref (ad 0)), (1, .int a), (2, .int 1)]) hx hb dX2_passOn_10 rfl hl (by decide) rfl (fun ls hl => ?_)
    refine lv_aload_n hx hb dX2_passOn_11 rfl (lv_at hl 1 rfl) ?_
    refine lv_iload_n hx hb dX2_passOn_12 rfl (lv_at hl 2 rfl) ?_
    refine fk_callV (As := [.int a]) (rest := []) ⟨hx, hb, hml, hown, hts⟩ (kc_firstLockingAt l D ad cI cT cJ X S a) (cwV 1 hts gX2_passOn_X2_firstLockingAt rfl rfl rfl (by decide +kernel) ⟨Nat.le_of_ble_eq_true rfl, Nat.le_of_ble_eq_true rfl⟩) (fk_rvK hK hP) hK hP hD hS hA rfl hl.1 rfl (Nat.le_of_ble_eq_true rfl) dX2_passOn_13 ⟨Nat.le_of_ble_eq_true rfl, Nat.le_of_ble_eq_true rfl⟩ (fun H locs hP hD hS => ?_)
    rcases o_2 : kk_lk S a with _ | u3
    · refine W.eq (g2 := F0 m 16 ls [.null]) (by first | rfl | (rw [o_2]; rfl)) ?_
      refine lv_astoreN (lv' := [(4, .null), (3, .int 1073741824), (0, .ref (ad 0)), (1, .int a), (2, .int 1)]) hx hb dX2_passOn_16 hl (by decide) rfl (fun ls hl => ?_)
      refine lv_aloadN hx hb dX2_passOn_18 (lv_at hl 0 rfl) ?_
      refine lv_ifnullN (tgt := 52) hx hb dX2_passOn_20 (by decide) ?_
      refine lv_iload_n hx hb dX2_passOn_52 rfl (lv_at hl 3 rfl) ?_
      refine fk_callS (As := [.int a]) (rest := []) ⟨hx, hb, hml, hown, hts⟩ (kc_isAddress l D ad cI cT cJ X S a) (va_cwS 1 hts gX2_passOn_X2_isAddress rfl rfl rfl (by decide +kernel) ⟨Nat.le_of_ble_eq_true rfl, Nat.le_of_ble_eq_true rfl⟩) hK hP hD hS hA rfl hl.1 rfl (Nat.le_of_ble_eq_true rfl) dX2_passOn_53 ⟨Nat.le_of_ble_eq_true rfl, Nat.le_of_ble_eq_true rfl⟩ (fun H locs hP hD hS => ?_)
      cases b_4 : fk_isA a with
      | true =>
        refine W.eq (g2 := F0 m 56 ls [.int 1]) (by first | rfl | (rw [b_4]; rfl)) ?_
        refine lv_if_eq (tgt := 66) hx hb dX2_passOn_56 (by decide) (fun c => absurd c (by decide)) (fun _ => ?_)
        refine lv_aload_n hx hb dX2_passOn_59 rfl (lv_at hl 2 rfl) ?_
        refine fk_getK hx hb hts hiX2 hown hK hP 0 (by decide) (v := .ref (ad 1)) rfl (List.mem_of_getElem? (i := 3) rfl) rfl dX2_passOn_60 ?_
        refine lv_iload_n hx hb dX2_passOn_63 rfl (lv_at hl 3 rfl) ?_
        refine lv_iload_n hx hb dX2_passOn_64 rfl (lv_at hl 1 rfl) ?_
        refine fk_stW hx hb hK hP hD hS (fk_isA_in b_4) dX2_passOn_65 (fun H locs hP hD hS => ?_)
        refine lv_iconst (v := (-1)) hx hb dX2_passOn_66 (by decide) ?_
        exact fk_iret hx hb hr hlocks hP hK hD hS (congrArg (fun z => fk_kW ad cI cT z ++ X) (by first | rfl | simp [kk_pass, kk_died, o_2, b_4])) (by first | rfl | simp [fk_oI, o_2, b_4]) dX2_passOn_67
      | false =>
        refine W.eq (g2 := F0 m 56 ls [.int 0]) (by first | rfl | (rw [b_4]; rfl)) ?_
        refine lv_if_eq (tgt := 66) hx hb dX2_passOn_56 (by decide) (fun _ => ?_) (fun c => absurd c (by decide))
        refine lv_iconst (v := (-1)) hx hb dX2_passOn_66 (by decide) ?_
        exact fk_iret hx hb hr hlocks hP hK hD hS (congrArg (fun z => fk_kW ad cI cT z ++ X) (by first | rfl | simp [kk_pass, kk_died, o_2, b_4])) (by first | rfl | simp [fk_oI, o_2, b_4]) dX2_passOn_67
    · have hu_7 : u3 < 8 := kk_lk_lt o_2
      refine W.eq (g2 := F0 m 16 ls [.ref (ad (3 + u3))]) (by first | rfl | (rw [o_2]; rfl)) ?_
      refine lv_astore (lv' := [(4, .ref (ad (3 + u3))), (3, .int 1073741824), (0, .ref (ad 0)), (1, .int a), (2, .int 1)]) hx hb dX2_passOn_16 hl (by decide) rfl (fun ls hl => ?_)
      refine lv_aload hx hb dX2_passOn_18 (lv_at hl 0 rfl) ?_
      refine lv_ifnull hx hb dX2_passOn_20 ?_
      refine lv_aload_n hx hb dX2_passOn_23 rfl (lv_at hl 2 rfl) ?_
      refine lv_aload hx hb dX2_passOn_24 (lv_at hl 0 rfl) ?_
      refine lv_iload_n hx hb dX2_passOn_26 rfl (lv_at hl 4 rfl) ?_
      refine lv_if_eq (tgt := 34) hx hb dX2_passOn_27 (by decide) (fun c => absurd c (by decide)) (fun _ => ?_)
      refine lv_iconst (v := 4) hx hb dX2_passOn_30 (by decide) ?_
      refine lv_goto (tgt := 35) hx hb dX2_passOn_31 (by decide) ?_
      refine fk_callV (As := [.ref (ad (3 + u3)), .int 4]) (rest := []) ⟨hx, hb, hml, hown, hts⟩ (kc_endWait l D ad cI cT cJ X S u3 4 hu_7) (cwV 2 hts gX2_passOn_X2_endWait rfl rfl rfl (by decide +kernel) ⟨Nat.le_of_ble_eq_true rfl, Nat.le_of_ble_eq_true rfl⟩) (fk_rvK hK hP) hK hP hD hS hA rfl hl.1 rfl (Nat.le_of_ble_eq_true rfl) dX2_passOn_35 ⟨Nat.le_of_ble_eq_true rfl, Nat.le_of_ble_eq_true rfl⟩ (fun H locs hP hD hS => ?_)
      refine W.eq (g2 := F0 m 38 ls []) rfl ?_
      refine lv_aload_n hx hb dX2_passOn_38 rfl (lv_at hl 2 rfl) ?_
      refine lv_aload hx hb dX2_passOn_39 (lv_at hl 0 rfl) ?_
      refine lv_iload_n hx hb dX2_passOn_41 rfl (lv_at hl 3 rfl) ?_
      refine lv_iload_n hx hb dX2_passOn_42 rfl (lv_at hl 1 rfl) ?_
      refine fk_callV (As := [.ref (ad (3 + u3)), .int a, .int 1073741824]) (rest := []) ⟨hx, hb, hml, hown, hts⟩ (kc_giveLock l D ad cI cT cJ X (kk_end S u3 4) u3 a 1073741824 hu_7 (fk_sz_of (kk_end_10 _ _ _) hsz)) (cwV 3 hts gX2_passOn_X2_giveLock rfl rfl rfl (by decide +kernel) ⟨Nat.le_of_ble_eq_true rfl, Nat.le_of_ble_eq_true rfl⟩) (fk_rvK hK hP) hK hP hD hS hA rfl hl.1 rfl (Nat.le_of_ble_eq_true rfl) dX2_passOn_43 ⟨Nat.le_of_ble_eq_true rfl, Nat.le_of_ble_eq_true rfl⟩ (fun H locs hP hD hS => ?_)
      refine W.eq (g2 := F0 m 46 ls []) rfl ?_
      refine lv_aload hx hb dX2_passOn_46 (lv_at hl 0 rfl) ?_
      refine fk_getT hx hb hts hiX1 hown hK hP hu_7 0 (by decide) (v := .int (nI u3)) rfl (List.mem_of_getElem? (i := 2) rfl) rfl dX2_passOn_48 ?_
      exact fk_iret hx hb hr hlocks hP hK hD hS (congrArg (fun z => fk_kW ad cI cT z ++ X) (by first | rfl | simp [kk_pass, kk_died, o_2])) (by first | rfl | simp [fk_oI, o_2]) dX2_passOn_51
  | false =>
    have hl : lv_has ls 5 [(0, .ref (ad 0)), (1, .int a), (2, .int 0)] := hl
    refine lv_iload_n hx hb dX2_passOn_0 rfl (lv_at hl 2 rfl) ?_
    refine lv_if_eq (tgt := 9) hx hb dX2_passOn_1 (by decide) (fun _ => ?_) (fun c => absurd c (by decide))
    refine lv_iconst (v := 0) hx hb dX2_passOn_9 (by decide) ?_
    refine lv_istore_n (lv' := [(3, .int 0), (0, .ref (ad 0)), (1, .int a), (2, .int 0)]) hx hb dX2_passOn_10 rfl hl (by decide) rfl (fun ls hl => ?_)
    refine lv_aload_n hx hb dX2_passOn_11 rfl (lv_at hl 1 rfl) ?_
    refine lv_iload_n hx hb dX2_passOn_12 rfl (lv_at hl 2 rfl) ?_
    refine fk_callV (As := [.int a]) (rest := []) ⟨hx, hb, hml, hown, hts⟩ (kc_firstLockingAt l D ad cI cT cJ X S a) (cwV 1 hts gX2_passOn_X2_firstLockingAt rfl rfl rfl (by decide +kernel) ⟨Nat.le_of_ble_eq_true rfl, Nat.le_of_ble_eq_true rfl⟩) (fk_rvK hK hP) hK hP hD hS hA rfl hl.1 rfl (Nat.le_of_ble_eq_true rfl) dX2_passOn_13 ⟨Nat.le_of_ble_eq_true rfl, Nat.le_of_ble_eq_true rfl⟩ (fun H locs hP hD hS => ?_)
    rcases o_10 : kk_lk S a with _ | u11
    · refine W.eq (g2 := F0 m 16 ls [.null]) (by first | rfl | (rw [o_10]; rfl)) ?_
      refine lv_astoreN (lv' := [(4, .null), (3, .int 0), (0, .ref (ad 0)), (1, .int a), (2, .int 0)]) hx hb dX2_passOn_16 hl (by decide) rfl (fun ls hl => ?_)
      refine lv_aloadN hx hb dX2_passOn_18 (lv_at hl 0 rfl) ?_
      refine lv_ifnullN (tgt := 52) hx hb dX2_passOn_20 (by decide) ?_
      refine lv_iload_n hx hb dX2_passOn_52 rfl (lv_at hl 3 rfl) ?_
      refine fk_callS (As := [.int a]) (rest := []) ⟨hx, hb, hml, hown, hts⟩ (kc_isAddress l D ad cI cT cJ X S a) (va_cwS 1 hts gX2_passOn_X2_isAddress rfl rfl rfl (by decide +kernel) ⟨Nat.le_of_ble_eq_true rfl, Nat.le_of_ble_eq_true rfl⟩) hK hP hD hS hA rfl hl.1 rfl (Nat.le_of_ble_eq_true rfl) dX2_passOn_53 ⟨Nat.le_of_ble_eq_true rfl, Nat.le_of_ble_eq_true rfl⟩ (fun H locs hP hD hS => ?_)
      cases b_12 : fk_isA a with
      | true =>
        refine W.eq (g2 := F0 m 56 ls [.int 1]) (by first | rfl | (rw [b_12]; rfl)) ?_
        refine lv_if_eq (tgt := 66) hx hb dX2_passOn_56 (by decide) (fun c => absurd c (by decide)) (fun _ => ?_)
        refine lv_aload_n hx hb dX2_passOn_59 rfl (lv_at hl 2 rfl) ?_
        refine fk_getK hx hb hts hiX2 hown hK hP 0 (by decide) (v := .ref (ad 1)) rfl (List.mem_of_getElem? (i := 3) rfl) rfl dX2_passOn_60 ?_
        refine lv_iload_n hx hb dX2_passOn_63 rfl (lv_at hl 3 rfl) ?_
        refine lv_iload_n hx hb dX2_passOn_64 rfl (lv_at hl 1 rfl) ?_
        refine fk_stW hx hb hK hP hD hS (fk_isA_in b_12) dX2_passOn_65 (fun H locs hP hD hS => ?_)
        refine lv_iconst (v := (-1)) hx hb dX2_passOn_66 (by decide) ?_
        exact fk_iret hx hb hr hlocks hP hK hD hS (congrArg (fun z => fk_kW ad cI cT z ++ X) (by first | rfl | simp [kk_pass, kk_died, o_10, b_12])) (by first | rfl | simp [fk_oI, o_10, b_12]) dX2_passOn_67
      | false =>
        refine W.eq (g2 := F0 m 56 ls [.int 0]) (by first | rfl | (rw [b_12]; rfl)) ?_
        refine lv_if_eq (tgt := 66) hx hb dX2_passOn_56 (by decide) (fun _ => ?_) (fun c => absurd c (by decide))
        refine lv_iconst (v := (-1)) hx hb dX2_passOn_66 (by decide) ?_
        exact fk_iret hx hb hr hlocks hP hK hD hS (congrArg (fun z => fk_kW ad cI cT z ++ X) (by first | rfl | simp [kk_pass, kk_died, o_10, b_12])) (by first | rfl | simp [fk_oI, o_10, b_12]) dX2_passOn_67
    · have hu_15 : u11 < 8 := kk_lk_lt o_10
      refine W.eq (g2 := F0 m 16 ls [.ref (ad (3 + u11))]) (by first | rfl | (rw [o_10]; rfl)) ?_
      refine lv_astore (lv' := [(4, .ref (ad (3 + u11))), (3, .int 0), (0, .ref (ad 0)), (1, .int a), (2, .int 0)]) hx hb dX2_passOn_16 hl (by decide) rfl (fun ls hl => ?_)
      refine lv_aload hx hb dX2_passOn_18 (lv_at hl 0 rfl) ?_
      refine lv_ifnull hx hb dX2_passOn_20 ?_
      refine lv_aload_n hx hb dX2_passOn_23 rfl (lv_at hl 2 rfl) ?_
      refine lv_aload hx hb dX2_passOn_24 (lv_at hl 0 rfl) ?_
      refine lv_iload_n hx hb dX2_passOn_26 rfl (lv_at hl 4 rfl) ?_
      refine lv_if_eq (tgt := 34) hx hb dX2_passOn_27 (by decide) (fun _ => ?_) (fun c => absurd c (by decide))
      refine lv_iconst (v := 3) hx hb dX2_passOn_34 (by decide) ?_
      refine fk_callV (As := [.ref (ad (3 + u11)), .int 3]) (rest := []) ⟨hx, hb, hml, hown, hts⟩ (kc_endWait l D ad cI cT cJ X S u11 3 hu_15) (cwV 2 hts gX2_passOn_X2_endWait rfl rfl rfl (by decide +kernel) ⟨Nat.le_of_ble_eq_true rfl, Nat.le_of_ble_eq_true rfl⟩) (fk_rvK hK hP) hK hP hD hS hA rfl hl.1 rfl (Nat.le_of_ble_eq_true rfl) dX2_passOn_35 ⟨Nat.le_of_ble_eq_true rfl, Nat.le_of_ble_eq_true rfl⟩ (fun H locs hP hD hS => ?_)
      refine W.eq (g2 := F0 m 38 ls []) rfl ?_
      refine lv_aload_n hx hb dX2_passOn_38 rfl (lv_at hl 2 rfl) ?_
      refine lv_aload hx hb dX2_passOn_39 (lv_at hl 0 rfl) ?_
      refine lv_iload_n hx hb dX2_passOn_41 rfl (lv_at hl 3 rfl) ?_
      refine lv_iload_n hx hb dX2_passOn_42 rfl (lv_at hl 1 rfl) ?_
      refine fk_callV (As := [.ref (ad (3 + u11)), .int a, .int 0]) (rest := []) ⟨hx, hb, hml, hown, hts⟩ (kc_giveLock l D ad cI cT cJ X (kk_end S u11 3) u11 a 0 hu_15 (fk_sz_of (kk_end_10 _ _ _) hsz)) (cwV 3 hts gX2_passOn_X2_giveLock rfl rfl rfl (by decide +kernel) ⟨Nat.le_of_ble_eq_true rfl, Nat.le_of_ble_eq_true rfl⟩) (fk_rvK hK hP) hK hP hD hS hA rfl hl.1 rfl (Nat.le_of_ble_eq_true rfl) dX2_passOn_43 ⟨Nat.le_of_ble_eq_true rfl, Nat.le_of_ble_eq_true rfl⟩ (fun H locs hP hD hS => ?_)
      refine W.eq (g2 := F0 m 46 ls []) rfl ?_
      refine lv_aload hx hb dX2_passOn_46 (lv_at hl 0 rfl) ?_
      refine fk_getT hx hb hts hiX1 hown hK hP hu_15 0 (by decide) (v := .int (nI u11)) rfl (List.mem_of_getElem? (i := 2) rfl) rfl dX2_passOn_48 ?_
      exact fk_iret hx hb hr hlocks hP hK hD hS (congrArg (fun z => fk_kW ad cI cT z ++ X) (by first | rfl | simp [kk_pass, kk_died, o_10])) (by first | rfl | simp [fk_oI, o_10]) dX2_passOn_51

abbrev rmX2_isHeldUpBy : Room := { frames := 2, cells := 0, slots := 0, locals := 42 }
set_option maxHeartbeats 4000000 in
set_option maxRecDepth 100000 in
theorem kc_isHeldUpBy (l : Launch) (D : va_G) (ad : Nat → Nat) (cI cT cJ : ClassId) (X : va_W) (S : fk_S) (t u : Nat) (ht : t < 8) (hu : u < 8) : fk_C l D (fk_ty cI cT cJ) yX2_isHeldUpBy wsX2_isHeldUpBy rmX2_isHeldUpBy [.ref (ad 0), .ref (ad (3 + t)), .ref (ad (3 + u))] (fk_kW ad cI cT S ++ X) (some (.int (fk_b (kk_held S u 8 (some t))))) (fk_kW ad cI cT S ++ X) := by
  refine fk_C_of (cc := cX2_isHeldUpBy) (maxL := 5) (ret := (some .boolean)) (own := RX2) (by decide) rfl rfl (Nat.le_of_ble_eq_true rfl) ?_
  intro p e s m below meth c A ls hx hb hr hlocks hml hts hown hA hP hK hD hl
  have hS : va_S A s.heap s.heap [] := va_S.rf
  have hl : lv_has ls 5 [(0, .ref (ad 0)), (1, .ref (ad (3 + t))), (2, .ref (ad (3 + u)))] := hl
  have hiX1 : ∀ w ∈ u_ws RX1 TX1 11, w ∈ wsX2_isHeldUpBy := by decide +kernel
  refine lv_aload_n hx hb dX2_isHeldUpBy_0 rfl (lv_at hl 1 rfl) ?_
  refine lv_astore_n (lv' := [(3, .ref (ad (3 + t))), (0, .ref (ad 0)), (1, .ref (ad (3 + t))), (2, .ref (ad (3 + u)))]) hx hb dX2_isHeldUpBy_1 rfl hl (by decide) rfl (fun ls hl => ?_)
  refine lv_iconst (v := 0) hx hb dX2_isHeldUpBy_2 (by decide) ?_
  refine lv_istore (lv' := [(4, .int 0), (3, .ref (ad (3 + t))), (0, .ref (ad 0)), (1, .ref (ad (3 + t))), (2, .ref (ad (3 + u)))]) hx hb dX2_isHeldUpBy_3 hl (by decide) rfl (fun ls hl => ?_)
  have loop : ∀ (n : Nat) (i : Nat) (x : Option Nat), i + n = 8 → (∀ u, x = some u → u < 8) → kk_held S u n x = kk_held S u 8 (some t) → ∀ (H : Heap) (locs : List Loc) (ls : Array Slot), va_P D vwCl (fk_kW ad cI cT S ++ X) H → va_D A (fk_kW ad cI cT S ++ X) → va_S A s.heap H locs → lv_has ls 5 [(4, .int (nI i)), (3, (match x with | none => Value.null | some t9 => Value.ref (ad (3 + t9)))), (0, .ref (ad 0)), (1, .ref (ad (3 + t))), (2, .ref (ad (3 + u)))] → W p l e rmX2_isHeldUpBy s m ([.ref (ad 0), .ref (ad (3 + t)), .ref (ad (3 + u))] : List Value).toArray below meth c H locs 0 0 (fk_Q below D (fk_ty cI cT cJ) [.ref (ad 0), .ref (ad (3 + t)), .ref (ad (3 + u))] s A (fk_kW ad cI cT S ++ X) (some (.int (fk_b (kk_held S u 8 (some t)))))) (F0 m 5 ls []) := by
    intro n
    induction n with
    | zero =>
      intro i x hi hx9 hR H locs ls hP hD hS hl
      rcases x with _ | w
      · have hl : lv_has ls 5 [(4, .int (nI i)), (3, .null), (0, .ref (ad 0)), (1, .ref (ad (3 + t))), (2, .ref (ad (3 + u)))] := hl
        refine lv_iload hx hb dX2_isHeldUpBy_5 (lv_at hl 0 rfl) ?_
        refine lv_bipush (v := 8) hx hb dX2_isHeldUpBy_7 (by decide) ?_
        refine lv_icmp_ge (tgt := 48) hx hb dX2_isHeldUpBy_9 (by decide) (fun c_1 => ?_) (fun c_1 => absurd (nI_le (a := 8) (b := i) (by omega) (by omega)) c_1)
        refine lv_iconst (v := 0) hx hb dX2_isHeldUpBy_48 (by decide) ?_
        exact fk_zret hx hb hr hlocks hP hK hD hS (congrArg (fun z => fk_kW ad cI cT z ++ X) (by first | rfl | simp [c_1])) rfl (by rw [← hR]; rfl) dX2_isHeldUpBy_49
      · have hl : lv_has ls 5 [(4, .int (nI i)), (3, .ref (ad (3 + w))), (0, .ref (ad 0)), (1, .ref (ad (3 + t))), (2, .ref (ad (3 + u)))] := hl
        have hw : w < 8 := hx9 w rfl
        refine lv_iload hx hb dX2_isHeldUpBy_5 (lv_at hl 0 rfl) ?_
        refine lv_bipush (v := 8) hx hb dX2_isHeldUpBy_7 (by decide) ?_
        refine lv_icmp_ge (tgt := 48) hx hb dX2_isHeldUpBy_9 (by decide) (fun c_2 => ?_) (fun c_2 => absurd (nI_le (a := 8) (b := i) (by omega) (by omega)) c_2)
        refine lv_iconst (v := 0) hx hb dX2_isHeldUpBy_48 (by decide) ?_
        exact fk_zret hx hb hr hlocks hP hK hD hS (congrArg (fun z => fk_kW ad cI cT z ++ X) (by first | rfl | simp [c_2])) rfl (by rw [← hR]; rfl) dX2_isHeldUpBy_49
    | succ n ih =>
      intro i x hi hx9 hR H locs ls hP hD hS hl
      rcases x with _ | w
      · have hl : lv_has ls 5 [(4, .int (nI i)), (3, .null), (0, .ref (ad 0)), (1, .ref (ad (3 + t))), (2, .ref (ad (3 + u)))] := hl
        refine lv_iload hx hb dX2_isHeldUpBy_5 (lv_at hl 0 rfl) ?_
        refine lv_bipush (v := 8) hx hb dX2_isHeldUpBy_7 (by decide) ?_
        refine lv_icmp_ge (tgt := 48) hx hb dX2_isHeldUpBy_9 (by decide) (fun c_3 => absurd c_3 (nI_ge (a := i) (b := 8) (by omega) (by omega))) (fun c_3 => ?_)
        refine lv_aload_nN hx hb dX2_isHeldUpBy_12 rfl (lv_at hl 1 rfl) ?_
        refine lv_ifnullN (tgt := 24) hx hb dX2_isHeldUpBy_13 (by decide) ?_
        refine lv_iconst (v := 0) hx hb dX2_isHeldUpBy_24 (by decide) ?_
        exact fk_zret hx hb hr hlocks hP hK hD hS (congrArg (fun z => fk_kW ad cI cT z ++ X) (by first | rfl | simp [c_3])) rfl (by rw [← hR]; simp [kk_held, fk_b, c_3]) dX2_isHeldUpBy_25
      · have hl : lv_has ls 5 [(4, .int (nI i)), (3, .ref (ad (3 + w))), (0, .ref (ad 0)), (1, .ref (ad (3 + t))), (2, .ref (ad (3 + u)))] := hl
        have hw : w < 8 := hx9 w rfl
        refine lv_iload hx hb dX2_isHeldUpBy_5 (lv_at hl 0 rfl) ?_
        refine lv_bipush (v := 8) hx hb dX2_isHeldUpBy_7 (by decide) ?_
        refine lv_icmp_ge (tgt := 48) hx hb dX2_isHeldUpBy_9 (by decide) (fun c_4 => absurd c_4 (nI_ge (a := i) (b := 8) (by omega) (by omega))) (fun c_4 => ?_)
        refine lv_aload_n hx hb dX2_isHeldUpBy_12 rfl (lv_at hl 1 rfl) ?_
        refine lv_ifnull hx hb dX2_isHeldUpBy_13 ?_
        refine lv_aload_n hx hb dX2_isHeldUpBy_16 rfl (lv_at hl 1 rfl) ?_
        refine fk_getT hx hb hts hiX1 hown hK hP hw 2 (by decide) (v := .int (S 1 w)) rfl (List.mem_of_getElem? (i := 1) rfl) rfl dX2_isHeldUpBy_17 ?_
        refine lv_iconst (v := 2) hx hb dX2_isHeldUpBy_20 (by decide) ?_
        refine lv_icmp_eq (tgt := 26) hx hb dX2_isHeldUpBy_21 (by decide) (fun c_5 => ?_) (fun c_5 => ?_)
        · refine lv_aload_n hx hb dX2_isHeldUpBy_26 rfl (lv_at hl 2 rfl) ?_
          refine lv_aload_n hx hb dX2_isHeldUpBy_27 rfl (lv_at hl 1 rfl) ?_
          refine fk_getT hx hb hts hiX1 hown hK hP hw 4 (by decide) (v := .int (S 3 w)) rfl (List.mem_of_getElem? (i := 2) rfl) rfl dX2_isHeldUpBy_28 ?_
          refine fk_callV (As := [.int (S 3 w)]) (rest := []) ⟨hx, hb, hml, hown, hts⟩ (kc_ownerAt l D ad cI cT cJ X S (S 3 w)) (cwV 1 hts gX2_isHeldUpBy_X2_ownerAt rfl rfl rfl (by decide +kernel) ⟨Nat.le_of_ble_eq_true rfl, Nat.le_of_ble_eq_true rfl⟩) (fk_rvK hK hP) hK hP hD hS hA rfl hl.1 rfl (Nat.le_of_ble_eq_true rfl) dX2_isHeldUpBy_31 ⟨Nat.le_of_ble_eq_true rfl, Nat.le_of_ble_eq_true rfl⟩ (fun H locs hP hD hS => ?_)
          rcases o_6 : kk_owner S (S 3 w) with _ | u7
          · refine W.eq (g2 := F0 m 34 ls [.null]) (by first | rfl | (rw [o_6]; rfl)) ?_
            refine lv_astore_nN (lv' := [(3, .null), (4, .int (nI i)), (0, .ref (ad 0)), (1, .ref (ad (3 + t))), (2, .ref (ad (3 + u)))]) hx hb dX2_isHeldUpBy_34 rfl hl (by decide) rfl (fun ls hl => ?_)
            refine lv_aload_nN hx hb dX2_isHeldUpBy_35 rfl (lv_at hl 0 rfl) ?_
            refine lv_aload_n hx hb dX2_isHeldUpBy_36 rfl (lv_at hl 4 rfl) ?_
            refine lv_acmp_ne (rx := none) (ry := (some (ad (3 + u)))) (tgt := 42) hx hb dX2_isHeldUpBy_37 (by decide) (fun _ => ?_) (fun c => absurd c (fun h => by cases h))
            refine lv_iinc (v := (nI (i + 1))) (lv' := [(4, .int (nI (i + 1))), (3, .null), (0, .ref (ad 0)), (1, .ref (ad (3 + t))), (2, .ref (ad (3 + u)))]) hx hb dX2_isHeldUpBy_42 hl (k := 1) rfl (nI_1 i) (by decide) rfl (fun ls hl => ?_)
            refine lv_goto (tgt := 5) hx hb dX2_isHeldUpBy_45 (by decide) ?_
            exact ih (i + 1) none (by omega) (by intro w hw; cases hw) (by rw [← hR]; simp [kk_held, c_4, c_5, o_6]) _ _ _ hP hD hS (lv_sub hl [0, 1, 2, 3, 4] rfl)
          · have hu_8 : u7 < 8 := kk_owner_lt o_6
            refine W.eq (g2 := F0 m 34 ls [.ref (ad (3 + u7))]) (by first | rfl | (rw [o_6]; rfl)) ?_
            refine lv_astore_n (lv' := [(3, .ref (ad (3 + u7))), (4, .int (nI i)), (0, .ref (ad 0)), (1, .ref (ad (3 + t))), (2, .ref (ad (3 + u)))]) hx hb dX2_isHeldUpBy_34 rfl hl (by decide) rfl (fun ls hl => ?_)
            refine lv_aload_n hx hb dX2_isHeldUpBy_35 rfl (lv_at hl 0 rfl) ?_
            refine lv_aload_n hx hb dX2_isHeldUpBy_36 rfl (lv_at hl 4 rfl) ?_
            refine lv_acmp_ne (rx := (some (ad (3 + u7)))) (ry := (some (ad (3 + u)))) (tgt := 42) hx hb dX2_isHeldUpBy_37 (by decide) (fun c_9 => ?_) (fun c_9 => ?_)
            · have f_10 : ¬ u7 = u := fun h9 => c_9 (by rw [h9])
              refine lv_iinc (v := (nI (i + 1))) (lv' := [(4, .int (nI (i + 1))), (3, .ref (ad (3 + u7))), (0, .ref (ad 0)), (1, .ref (ad (3 + t))), (2, .ref (ad (3 + u)))]) hx hb dX2_isHeldUpBy_42 hl (k := 1) rfl (nI_1 i) (by decide) rfl (fun ls hl => ?_)
              refine lv_goto (tgt := 5) hx hb dX2_isHeldUpBy_45 (by decide) ?_
              exact ih (i + 1) (some u7) (by omega) (by intro w hw; cases hw; omega) (by rw [← hR]; simp [kk_held, c_4, c_5, o_6, c_9, f_10]) _ _ _ hP hD hS (lv_sub hl [0, 1, 2, 3, 4] rfl)
            · have e_11 : u7 = u := fk_adT hD hu_8 hu c_9
              refine lv_iconst (v := 1) hx hb dX2_isHeldUpBy_40 (by decide) ?_
              exact fk_zret hx hb hr hlocks hP hK hD hS (congrArg (fun z => fk_kW ad cI cT z ++ X) (by first | rfl | simp [c_4, c_5, o_6, c_9, e_11])) rfl (by rw [← hR]; simp [kk_held, fk_b, c_4, c_5, o_6, c_9, e_11]) dX2_isHeldUpBy_41
        · refine lv_iconst (v := 0) hx hb dX2_isHeldUpBy_24 (by decide) ?_
          exact fk_zret hx hb hr hlocks hP hK hD hS (congrArg (fun z => fk_kW ad cI cT z ++ X) (by first | rfl | simp [c_4, c_5])) rfl (by rw [← hR]; simp [kk_held, fk_b, c_4, c_5]) dX2_isHeldUpBy_25
  exact loop 8 0 (some t) rfl (by intro w hw; cases hw; exact ht) rfl _ _ _ hP hD hS (lv_sub hl [0, 1, 2, 3, 4] rfl)

abbrev rmX2_blockedByOneOf : Room := { frames := 2, cells := 0, slots := 0, locals := 42 }
set_option maxHeartbeats 4000000 in
set_option maxRecDepth 100000 in
theorem kc_blockedByOneOf (l : Launch) (D : va_G) (ad : Nat → Nat) (cI cT cJ : ClassId) (X : va_W) (S : fk_S) (bl : Int32) : fk_C l D (fk_ty cI cT cJ) yX2_blockedByOneOf wsX2_blockedByOneOf rmX2_blockedByOneOf [.ref (ad 0), .int bl] (fk_kW ad cI cT S ++ X) (some (.int (kk_blk S bl))) (fk_kW ad cI cT S ++ X) := by
  refine fk_C_of (cc := cX2_blockedByOneOf) (maxL := 8) (ret := (some .int)) (own := RX2) (by decide) rfl rfl (Nat.le_of_ble_eq_true rfl) ?_
  intro p e s m below meth c A ls hx hb hr hlocks hml hts hown hA hP hK hD hl
  have hS : va_S A s.heap s.heap [] := va_S.rf
  have hl : lv_has ls 8 [(0, .ref (ad 0)), (1, .int bl)] := hl
  have hiX1 : ∀ w ∈ u_ws RX1 TX1 11, w ∈ wsX2_blockedByOneOf := by decide +kernel
  have hiX2 : ∀ w ∈ u_ws RX2 TX2 6, w ∈ wsX2_blockedByOneOf := by decide +kernel
  refine lv_iconst (v := 0) hx hb dX2_blockedByOneOf_0 (by decide) ?_
  refine lv_istore_n (lv' := [(2, .int 0), (0, .ref (ad 0)), (1, .int bl)]) hx hb dX2_blockedByOneOf_1 rfl hl (by decide) rfl (fun ls hl => ?_)
  refine lv_aload_n hx hb dX2_blockedByOneOf_2 rfl (lv_at hl 1 rfl) ?_
  refine fk_getK hx hb hts hiX2 hown hK hP 1 (by decide) (v := .ref (ad 2)) rfl (List.mem_of_getElem? (i := 1) rfl) rfl dX2_blockedByOneOf_3 ?_
  refine lv_astore_n (lv' := [(3, .ref (ad 2)), (2, .int 0), (0, .ref (ad 0)), (1, .int bl)]) hx hb dX2_blockedByOneOf_6 rfl hl (by decide) rfl (fun ls hl => ?_)
  refine lv_aload_n hx hb dX2_blockedByOneOf_7 rfl (lv_at hl 0 rfl) ?_
  refine fk_lenA hx hb hK hP dX2_blockedByOneOf_8 ?_
  refine lv_istore (lv' := [(4, .int 8), (3, .ref (ad 2)), (2, .int 0), (0, .ref (ad 0)), (1, .int bl)]) hx hb dX2_blockedByOneOf_9 hl (by decide) rfl (fun ls hl => ?_)
  refine lv_iconst (v := 0) hx hb dX2_blockedByOneOf_11 (by decide) ?_
  refine lv_istore (lv' := [(5, .int 0), (4, .int 8), (3, .ref (ad 2)), (2, .int 0), (0, .ref (ad 0)), (1, .int bl)]) hx hb dX2_blockedByOneOf_12 hl (by decide) rfl (fun ls hl => ?_)
  have loop : ∀ (n : Nat) (i : Nat) (x : Int32), i + n = 8 → fk_lp (kk_blk1 S bl) n i x = kk_blk S bl → ∀ (H : Heap) (locs : List Loc) (ls : Array Slot), va_P D vwCl (fk_kW ad cI cT S ++ X) H → va_D A (fk_kW ad cI cT S ++ X) → va_S A s.heap H locs → lv_has ls 8 [(2, .int x), (0, .ref (ad 0)), (1, .int bl), (3, .ref (ad 2)), (4, .int 8), (5, .int (nI i))] → W p l e rmX2_blockedByOneOf s m ([.ref (ad 0), .int bl] : List Value).toArray below meth c H locs 0 0 (fk_Q below D (fk_ty cI cT cJ) [.ref (ad 0), .int bl] s A (fk_kW ad cI cT S ++ X) (some (.int (kk_blk S bl)))) (F0 m 14 ls []) := by
    intro n
    induction n with
    | zero =>
      intro i x hi hR H locs ls hP hD hS hl
      refine lv_iload hx hb dX2_blockedByOneOf_14 (lv_at hl 5 rfl) ?_
      refine lv_iload hx hb dX2_blockedByOneOf_16 (lv_at hl 4 rfl) ?_
      refine lv_icmp_ge (tgt := 80) hx hb dX2_blockedByOneOf_18 (by decide) (fun c_1 => ?_) (fun c_1 => absurd (nI_le (a := 8) (b := i) (by omega) (by omega)) c_1)
      refine lv_iload_n hx hb dX2_blockedByOneOf_80 rfl (lv_at hl 0 rfl) ?_
      exact fk_iret hx hb hr hlocks hP hK hD hS (congrArg (fun z => fk_kW ad cI cT z ++ X) (by first | rfl | simp [c_1])) (by rw [← hR]; rfl) dX2_blockedByOneOf_81
    | succ n ih =>
      intro i x hi hR H locs ls hP hD hS hl
      refine lv_iload hx hb dX2_blockedByOneOf_14 (lv_at hl 5 rfl) ?_
      refine lv_iload hx hb dX2_blockedByOneOf_16 (lv_at hl 4 rfl) ?_
      refine lv_icmp_ge (tgt := 80) hx hb dX2_blockedByOneOf_18 (by decide) (fun c_2 => absurd c_2 (nI_ge (a := i) (b := 8) (by omega) (by omega))) (fun c_2 => ?_)
      refine lv_aload_n hx hb dX2_blockedByOneOf_21 rfl (lv_at hl 3 rfl) ?_
      refine lv_iload hx hb dX2_blockedByOneOf_22 (lv_at hl 5 rfl) ?_
      refine fk_ldA hx hb hK hP (vp_in_nI (show i < 8 from (by omega)) (by decide)) dX2_blockedByOneOf_24 ?_
      refine W.eq (g2 := F0 m 25 ls [.ref (ad (3 + i))]) (by rw [nI_clamp (by omega)]) ?_
      refine lv_astore (lv' := [(6, .ref (ad (3 + i))), (2, .int x), (0, .ref (ad 0)), (1, .int bl), (3, .ref (ad 2)), (4, .int 8), (5, .int (nI i))]) hx hb dX2_blockedByOneOf_25 hl (by decide) rfl (fun ls hl => ?_)
      refine lv_aload hx hb dX2_blockedByOneOf_27 (lv_at hl 0 rfl) ?_
      refine fk_getT hx hb hts hiX1 hown hK hP (by omega) 2 (by decide) (v := .int (S 1 i)) rfl (List.mem_of_getElem? (i := 2) rfl) rfl dX2_blockedByOneOf_29 ?_
      refine lv_iconst (v := 2) hx hb dX2_blockedByOneOf_32 (by decide) ?_
      refine lv_icmp_ne (tgt := 48) hx hb dX2_blockedByOneOf_33 (by decide) (fun c_3 => ?_) (fun c_3 => ?_)
      · refine lv_null hx hb dX2_blockedByOneOf_48 ?_
        refine lv_astoreN (lv' := [(7, .null), (6, .ref (ad (3 + i))), (2, .int x), (0, .ref (ad 0)), (1, .int bl), (3, .ref (ad 2)), (4, .int 8), (5, .int (nI i))]) hx hb dX2_blockedByOneOf_49 hl (by decide) rfl (fun ls hl => ?_)
        refine lv_aloadN hx hb dX2_blockedByOneOf_51 (lv_at hl 0 rfl) ?_
        refine lv_ifnullN (tgt := 74) hx hb dX2_blockedByOneOf_53 (by decide) ?_
        refine lv_iinc (v := (nI (i + 1))) (lv' := [(5, .int (nI (i + 1))), (7, .null), (6, .ref (ad (3 + i))), (2, .int x), (0, .ref (ad 0)), (1, .int bl), (3, .ref (ad 2)), (4, .int 8)]) hx hb dX2_blockedByOneOf_74 hl (k := 7) rfl (nI_1 i) (by decide) rfl (fun ls hl => ?_)
        refine lv_goto (tgt := 14) hx hb dX2_blockedByOneOf_77 (by decide) ?_
        exact ih (i + 1) x (by omega) ((congrArg (fk_lp _ n (i + 1)) (show x = kk_blk1 S bl i x from by simp [kk_blk1, c_3])).trans hR) _ _ _ hP hD hS (lv_sub hl [3, 4, 5, 6, 7, 0] rfl)
      · refine lv_aload_n hx hb dX2_blockedByOneOf_36 rfl (lv_at hl 2 rfl) ?_
        refine lv_aload hx hb dX2_blockedByOneOf_37 (lv_at hl 0 rfl) ?_
        refine fk_getT hx hb hts hiX1 hown hK hP (by omega) 4 (by decide) (v := .int (S 3 i)) rfl (List.mem_of_getElem? (i := 3) rfl) rfl dX2_blockedByOneOf_39 ?_
        refine fk_callV (As := [.int (S 3 i)]) (rest := []) ⟨hx, hb, hml, hown, hts⟩ (kc_ownerAt l D ad cI cT cJ X S (S 3 i)) (cwV 1 hts gX2_blockedByOneOf_X2_ownerAt rfl rfl rfl (by decide +kernel) ⟨Nat.le_of_ble_eq_true rfl, Nat.le_of_ble_eq_true rfl⟩) (fk_rvK hK hP) hK hP hD hS hA rfl hl.1 rfl (Nat.le_of_ble_eq_true rfl) dX2_blockedByOneOf_42 ⟨Nat.le_of_ble_eq_true rfl, Nat.le_of_ble_eq_true rfl⟩ (fun H locs hP hD hS => ?_)
        rcases o_4 : kk_owner S (S 3 i) with _ | u5
        · refine W.eq (g2 := F0 m 45 ls [.null]) (by first | rfl | (rw [o_4]; rfl)) ?_
          refine lv_goto (tgt := 49) hx hb dX2_blockedByOneOf_45 (by decide) ?_
          refine lv_astoreN (lv' := [(7, .null), (6, .ref (ad (3 + i))), (2, .int x), (0, .ref (ad 0)), (1, .int bl), (3, .ref (ad 2)), (4, .int 8), (5, .int (nI i))]) hx hb dX2_blockedByOneOf_49 hl (by decide) rfl (fun ls hl => ?_)
          refine lv_aloadN hx hb dX2_blockedByOneOf_51 (lv_at hl 0 rfl) ?_
          refine lv_ifnullN (tgt := 74) hx hb dX2_blockedByOneOf_53 (by decide) ?_
          refine lv_iinc (v := (nI (i + 1))) (lv' := [(5, .int (nI (i + 1))), (7, .null), (6, .ref (ad (3 + i))), (2, .int x), (0, .ref (ad 0)), (1, .int bl), (3, .ref (ad 2)), (4, .int 8)]) hx hb dX2_blockedByOneOf_74 hl (k := 7) rfl (nI_1 i) (by decide) rfl (fun ls hl => ?_)
          refine lv_goto (tgt := 14) hx hb dX2_blockedByOneOf_77 (by decide) ?_
          exact ih (i + 1) x (by omega) ((congrArg (fk_lp _ n (i + 1)) (show x = kk_blk1 S bl i x from by simp [kk_blk1, c_3, o_4])).trans hR) _ _ _ hP hD hS (lv_sub hl [3, 4, 5, 6, 7, 0] rfl)
        · have hu_6 : u5 < 8 := kk_owner_lt o_4
          refine W.eq (g2 := F0 m 45 ls [.ref (ad (3 + u5))]) (by first | rfl | (rw [o_4]; rfl)) ?_
          refine lv_goto (tgt := 49) hx hb dX2_blockedByOneOf_45 (by decide) ?_
          refine lv_astore (lv' := [(7, .ref (ad (3 + u5))), (6, .ref (ad (3 + i))), (2, .int x), (0, .ref (ad 0)), (1, .int bl), (3, .ref (ad 2)), (4, .int 8), (5, .int (nI i))]) hx hb dX2_blockedByOneOf_49 hl (by decide) rfl (fun ls hl => ?_)
          refine lv_aload hx hb dX2_blockedByOneOf_51 (lv_at hl 0 rfl) ?_
          refine lv_ifnull hx hb dX2_blockedByOneOf_53 ?_
          refine lv_aload hx hb dX2_blockedByOneOf_56 (lv_at hl 0 rfl) ?_
          refine fk_callV (As := []) (rest := []) ⟨hx, hb, hml, hown, hts⟩ (kc_bit l D ad cI cT cJ X S u5 hu_6) (cwV 0 hts gX2_blockedByOneOf_X1_bit rfl rfl rfl (by decide +kernel) ⟨Nat.le_of_ble_eq_true rfl, Nat.le_of_ble_eq_true rfl⟩) (fk_rvT hK hP hu_6) hK hP hD hS hA rfl hl.1 rfl (Nat.le_of_ble_eq_true rfl) dX2_blockedByOneOf_58 ⟨Nat.le_of_ble_eq_true rfl, Nat.le_of_ble_eq_true rfl⟩ (fun H locs hP hD hS => ?_)
          refine W.eq (g2 := F0 m 61 ls [.int (kk_bit u5)]) rfl ?_
          refine lv_iload_n hx hb dX2_blockedByOneOf_61 rfl (lv_at hl 4 rfl) ?_
          refine lv_iand hx hb dX2_blockedByOneOf_62 ?_
          refine lv_if_eq (tgt := 74) hx hb dX2_blockedByOneOf_63 (by decide) (fun c_7 => ?_) (fun c_7 => ?_)
          · refine lv_iinc (v := (nI (i + 1))) (lv' := [(5, .int (nI (i + 1))), (7, .ref (ad (3 + u5))), (6, .ref (ad (3 + i))), (2, .int x), (0, .ref (ad 0)), (1, .int bl), (3, .ref (ad 2)), (4, .int 8)]) hx hb dX2_blockedByOneOf_74 hl (k := 7) rfl (nI_1 i) (by decide) rfl (fun ls hl => ?_)
            refine lv_goto (tgt := 14) hx hb dX2_blockedByOneOf_77 (by decide) ?_
            exact ih (i + 1) x (by omega) ((congrArg (fk_lp _ n (i + 1)) (show x = kk_blk1 S bl i x from by simp [kk_blk1, c_3, o_4, c_7])).trans hR) _ _ _ hP hD hS (lv_sub hl [3, 4, 5, 6, 7, 0] rfl)
          · refine lv_iload_n hx hb dX2_blockedByOneOf_66 rfl (lv_at hl 2 rfl) ?_
            refine lv_aload hx hb dX2_blockedByOneOf_67 (lv_at hl 1 rfl) ?_
            refine fk_callV (As := []) (rest := [.int x]) ⟨hx, hb, hml, hown, hts⟩ (kc_bit l D ad cI cT cJ X S i (by omega)) (cwV 0 hts gX2_blockedByOneOf_X1_bit rfl rfl rfl (by decide +kernel) ⟨Nat.le_of_ble_eq_true rfl, Nat.le_of_ble_eq_true rfl⟩) (fk_rvT hK hP (by omega)) hK hP hD hS hA rfl hl.1 rfl (Nat.le_of_ble_eq_true rfl) dX2_blockedByOneOf_69 ⟨Nat.le_of_ble_eq_true rfl, Nat.le_of_ble_eq_true rfl⟩ (fun H locs hP hD hS => ?_)
            refine W.eq (g2 := F0 m 72 ls [.int (kk_bit i), .int x]) rfl ?_
            refine lv_ior hx hb dX2_blockedByOneOf_72 ?_
            refine lv_istore_n (lv' := [(2, .int (x ||| (kk_bit i))), (7, .ref (ad (3 + u5))), (6, .ref (ad (3 + i))), (0, .ref (ad 0)), (1, .int bl), (3, .ref (ad 2)), (4, .int 8), (5, .int (nI i))]) hx hb dX2_blockedByOneOf_73 rfl hl (by decide) rfl (fun ls hl => ?_)
            refine lv_iinc (v := (nI (i + 1))) (lv' := [(5, .int (nI (i + 1))), (2, .int (x ||| (kk_bit i))), (7, .ref (ad (3 + u5))), (6, .ref (ad (3 + i))), (0, .ref (ad 0)), (1, .int bl), (3, .ref (ad 2)), (4, .int 8)]) hx hb dX2_blockedByOneOf_74 hl (k := 7) rfl (nI_1 i) (by decide) rfl (fun ls hl => ?_)
            refine lv_goto (tgt := 14) hx hb dX2_blockedByOneOf_77 (by decide) ?_
            exact ih (i + 1) (x ||| (kk_bit i)) (by omega) ((congrArg (fk_lp _ n (i + 1)) (show (x ||| (kk_bit i)) = kk_blk1 S bl i x from by simp [kk_blk1, c_3, o_4, c_7])).trans hR) _ _ _ hP hD hS (lv_sub hl [1, 4, 5, 6, 7, 0] rfl)
  exact loop 8 0 0 rfl rfl _ _ _ hP hD hS (lv_sub hl [3, 4, 5, 2, 1, 0] rfl)
end
section
/-! methods that throw: the world stays as it was -/
def fk_strs : List (Nat × String) := [(60, "from and to are the same"), (86, "not the owner"), (107, "no such place"), (130, "neither WAITING nor LOCKING"), (145, "not DEAD"), (176, "no such bucket or place"), (184, "no such thread"), (190, "no such address"), (192, "out of range"), (194, "not RUNNING"), (196, "DEAD")]
def fk_dc (w : Cond) : Bool := match w with
  | .declares _ => true
  | .castable _ _ => true
  | _ => false
def fk_bad : List Cond := ((vx_atS RX2 109 "java/lang/IndexOutOfBoundsException" ["java/lang/RuntimeException", "java/lang/Exception"]).filter (fun w => !goodWord w)) ++ (((vx_atS RX2 88 "java/lang/IllegalStateException" ["java/lang/RuntimeException", "java/lang/Exception"]).filter (fun w => !goodWord w)) ++ ((vx_atS RX2 62 "java/lang/IllegalArgumentException" ["java/lang/RuntimeException", "java/lang/Exception"]).filter (fun w => !goodWord w)))
theorem fk_bad_dc : ∀ w ∈ fk_bad, fk_dc w = true := by decide +kernel
theorem fk_dc_on {w : Cond} (h : fk_dc w = true) : w.onTables = true := by
  cases w with
  | declares x => rfl
  | castable a b => rfl
  | _ => cases h
theorem fk_warmW {w : Cond} (h : fk_dc w = true) {s U : State} (hW : s.WarmedH U.vm) (hZ : va_Nw w s) : va_Nw w U := by
  cases w with
  | declares x => exact va_Nw.warmD hW hZ
  | castable a b => exact va_tabs rfl (rfl : (s.setVm U.vm).vm = U.vm) (by rw [Cond.castable_setVm hW.alike]; exact hZ)
  | _ => cases h
def fk_Zs (A : Nat → Prop) (U : State) (H : Heap) : Prop := vx_Zq Bundle.tN "UNASSIGNED_STACK" Bundle.steD A U H ∧ vx_Zq Bundle.tN "SUPPRESSED_SENTINEL" Bundle.listD A U H ∧ (∀ q ∈ fk_strs, ∃ sa, vk_R RX2 q.1 q.2 sa U) ∧ ∀ w ∈ fk_bad, va_Nw w U
theorem fk_Zs.kept {A : Nat → Prop} {U : State} {H H1 : Heap} (h : fk_Zs A U H) (hq : ∀ a : Nat, a < H.size → ¬ A a → H1[a]? = H[a]?) : fk_Zs A U H1 := ⟨h.1.kept hq, h.2.1.kept hq, h.2.2⟩
theorem fk_Zs.narrow {A B : Nat → Prop} {U : State} {H : Heap} (h : fk_Zs A U H) (hAB : ∀ q, B q → A q) : fk_Zs B U H := ⟨h.1.narrow hAB, h.2.1.narrow hAB, h.2.2⟩
theorem fk_Zs.warm {A : Nat → Prop} {s U : State} {H : Heap} (hW : s.WarmedH U.vm) (h : fk_Zs A s H) : fk_Zs A U H := ⟨vx_Zq.moved hW.alike h.1, vx_Zq.moved hW.alike h.2.1, fun q hq => by obtain ⟨sa, h9⟩ := h.2.2.1 q hq; exact ⟨sa, vk_R.warm hW h9⟩, fun w hw => fk_warmW (fk_bad_dc w hw) hW (h.2.2.2 w hw)⟩
def fk_PreX (D : va_G) (tys : List (ClassId × FieldType)) (av : List Value) (W0 : va_W) (sz : Nat) : Array Value → State → Prop := va_Pc av (fun U => U.heap.size = sz ∧ va_P D vwCl W0 U.heap ∧ va_K D vwCl tys U ∧ va_D (fun _ => True) W0 ∧ fk_Zs (va_A W0 sz) U U.heap)
def fk_XC (D : va_G) (tys : List (ClassId × FieldType)) (A : Nat → Prop) (W0 : va_W) (E : String) : String → State → State → Prop := fun E' st t => E' = E ∧ va_P D vwCl W0 t.heap ∧ va_K D vwCl tys t ∧ va_D A W0 ∧ va_F A st t
def fk_X (l : Launch) (D : va_G) (tys : List (ClassId × FieldType)) (y : MethodName) (ws : List Cond) (rm : Room) (av : List Value) (W0 : va_W) (E : String) : Prop :=
  ∀ sz, vx_Met l y ws rm (fk_PreX D tys av W0 sz) (fun _ _ _ _ => False) (fk_XC D tys (va_A W0 sz) W0 E) 1 6 (va_A W0 sz)
theorem fk_blindX {D : va_G} {tys : List (ClassId × FieldType)} {av : List Value} {W0 : va_W} {sz : Nat} : FrameBlind (fk_PreX D tys av W0 sz) := fun a U g mk q => by
  obtain ⟨q0, q1, qP, qK, qD, q2, q3, q4, q5⟩ := q
  exact ⟨q0, q1, qP, va_K.moved (u := U) (U := U.calling g mk a) (Vm.Alike.refl U.vm) qK, qD, vx_Zq.moved (u := U) (U := U.calling g mk a) (Vm.Alike.refl U.vm) q2, vx_Zq.moved (u := U) (U := U.calling g mk a) (Vm.Alike.refl U.vm) q3, fun q hq => by obtain ⟨sa, h9⟩ := q4 q hq; exact ⟨sa, vk_R.same (u := U) rfl h9⟩, fun w hw => va_Nw.same (fk_dc_on (fk_bad_dc w hw)) (u := U) rfl (q5 w hw)⟩
abbrev fk_QX (below : List Frame) (D : va_G) (tys : List (ClassId × FieldType)) (av : List Value) (s : State) (A : Nat → Prop) (W0 : va_W) (E : String) : State → Prop := vx_MQ below (fun _ _ _ _ => False) (fk_XC D tys A W0 E) av.toArray s 1 6 A
theorem fk_X_of {l : Launch} {D : va_G} {tys : List (ClassId × FieldType)} {y : MethodName} {ws ws' : List Cond} {rm : Room} {av : List Value} {W0 : va_W} {E : String} {cc : ByteArray} {maxL : Nat} {ret : Option FieldType} {own : String}
    (hy : plainName y.cls = true) (hw : ws = Cond.code y cc maxL ret :: ws') (hyc : y.cls = own) (hle : (lg_sl av).length ≤ maxL)
    (body : ∀ (p : Program) (e : Env) (s : State) (m : MethodId) (below : List Frame) (meth : Method) (c : Code) (A : Nat → Prop) (ls : Array Slot), p.tables.exec = Jvm.exec → c.code = cc → (∀ x ∈ c.exceptionTable.toList, False) → meth.locks = false → c.maxLocals = maxL → (∀ w ∈ ws, w.before av.toArray s = true) → s.vm.findClass own = some m.cls →
      (∀ q : Nat, s.heap.size ≤ q → A q) → va_P D vwCl W0 s.heap → va_K D vwCl tys s → va_D A W0 → fk_Zs A s s.heap → lv_has ls maxL (lv_args 0 av) →
      W p l e rm s m av.toArray below meth c s.heap [] 0 0 (fk_QX below D tys av s A W0 E) (F0 m 0 ls [])) : fk_X l D tys y ws rm av W0 E := by
  intro sz
  refine vx_ofW (cc := cc) (maxL := maxL) (ret := ret) hy hw ?_
  intro p e s m args below meth c s₁ B hml hout hv
  obtain ⟨rfl, hsz, hP, hK, hD0, hZ⟩ := hv
  subst hsz
  subst hyc
  have hD := hD0.self (sz := s.heap.size)
  have hA : ∀ q : Nat, s.heap.size ≤ q → va_A W0 s.heap.size q := fun q h => Or.inr h
  have hl := lv_entry av (n := maxL) hle
  rw [lg_entry_eq]
  exact body p e s m below meth c _ _ B.exec B.bytes hout B.notSynchronized hml (atoms_spec (ws := ws) B.pre) (findClass_of_methodNamed B.named) hA hP hK hD hZ hl
section
variable {p : Program} {l : Launch} {e : Env} {R : Room} {s : State} {m : MethodId} {args : Array Value} {below : List Frame} {meth : Method} {c : Code} {H H0 : Heap} {locs : List Loc} {cells slots : Nat} {Q : State → Prop}
variable {D : va_G} {tys : List (ClassId × FieldType)} {A A0 : Nat → Prop} {W0 W1 : va_W} {av : List Value} {cc bytes : ByteArray} {pc nL maxL index n : Nat} {ls : Array Slot} {st0 rest : List Value}
variable {y : MethodName} {ret : Option FieldType} {wsY Ts : List Cond} {rm : Room} {own C E : String} {b : Addr} {As : List Value}
theorem fk_xcall {sz : Nat} (hsz : sz = H.size) (hr : vx_Run p l e R s m args below meth c H locs cells slots 1 6 (F0 m pc ls st0) rest (fun _ _ _ => False) (fk_XC D tys (va_A W0 sz) W0 E) (va_A W0 sz)) (hD : va_D A0 W0) (hS : va_S A0 H0 H locs) (hA : ∀ q, H0.size ≤ q → A0 q)
    (kx : ∀ (ce : Cell) (q9 : Addr) (H1 : Heap) (locs1 : List Loc), va_P D vwCl W0 H1 → va_S A0 H0 H1 locs1 → H1[q9]? = some ce → ce.vm = .none → s.vm.findClass E = some ce.cls → vx_W p l e R s m args below meth c H1 locs1 (cells + 1) (slots + 6) Q (F0 m pc ls rest) q9) : W p l e R s m args below meth c H locs cells slots Q (F0 m pc ls st0) := by
  subst hsz
  have hf := fk_fr hD hS hA
  intro T hT X
  rcases hr T hT X with ⟨v, st₀, t, T', L, h0, X', hL, e1, e2, hF, st⟩ | ⟨q, st₀, t, T', L, E', ce, h0, X', hL, e1, e2, ⟨rfl, hP1, hK1, hD1, hF⟩, hce, hcv, hcl, st⟩
  · exact hF.elim
  · obtain ⟨k1, k2, k3⟩ := vx_keep h0 e1 hS (fun q _ h => hf q h) hf hL hF
    obtain ⟨t2, a1, b1⟩ := kx ce q T'.heap (locs ++ L) (by rw [e1]; exact hP1) k3 (by rw [e1]; exact hce) hcv hcl T' rfl X'
    exact ⟨t2, st.trans a1, b1⟩
theorem fk_preX (hP : va_P D vwCl W0 H) (hK : va_K D vwCl tys s) (hD : va_D A0 W0) (hS : va_S A0 H0 H locs) (hA : ∀ q, H0.size ≤ q → A0 q) (hZ : fk_Zs A0 s H0) : ∀ U : State, U.heap = H → s.WarmedH U.vm → fk_PreX D tys av W0 H.size av.toArray U := fun U hU hW => ⟨rfl, by rw [hU], by rw [hU]; exact hP, va_K.moved hW.alike hK, hD.weaken (fun _ _ _ _ => trivial), by rw [hU]; exact fk_Zs.warm hW ((hZ.kept hS.2.1).narrow (fk_fr hD hS hA))⟩
theorem fk_xcallV (S9 : CallFix p m c cc nL s args Ts own) (hC : fk_X l D tys y wsY rm (.ref b :: As) W0 E) (cw : CallW R s args own C index y bytes maxL ret wsY rm 1 6 n)
    (hrv : ∃ cell : Cell, H[b]? = some cell ∧ cell.vm.isStatics = false ∧ s.vm.findClass C = some cell.cls) (hK : va_K D vwCl tys s) (hP : va_P D vwCl W0 H) (hD : va_D A0 W0) (hS : va_S A0 H0 H locs) (hA : ∀ q, H0.size ≤ q → A0 q) (hZ : fk_Zs A0 s H0)
    (hn : As.length = n) (hsize : ls.size = nL) (hst : st0 = As.reverse ++ .ref b :: rest) (hW : (rest.map fun v => v.category).sum ≤ 8) (hdg : decode cc pc = .ok (.invokevirtual index, 3)) (hf : cells + 1 ≤ R.cells ∧ slots + 6 ≤ R.slots)
    (kx : ∀ (ce : Cell) (q9 : Addr) (H1 : Heap) (locs1 : List Loc), va_P D vwCl W0 H1 → va_S A0 H0 H1 locs1 → H1[q9]? = some ce → ce.vm = .none → s.vm.findClass E = some ce.cls → vx_W p l e R s m args below meth c H1 locs1 (cells + 1) (slots + 6) Q (F0 m pc ls rest) q9) : W p l e R s m args below meth c H locs cells slots Q (F0 m pc ls st0) :=
  fk_xcall rfl (vx_runV (As := As) (rest := rest) S9 (hC H.size) cw ⟨fk_blindX, hrv, fk_preX hP hK hD hS hA hZ⟩ rfl hn hsize hst (lv_room hW) hdg hf) hD hS hA kx
theorem fk_xcallS (S9 : CallFix p m c cc nL s args Ts own) (hC : fk_X l D tys y wsY rm As W0 E) (cw : CallB R s args own index y bytes maxL ret wsY rm 1 6 n ∧ (Cond.static y).before args s = true)
    (hK : va_K D vwCl tys s) (hP : va_P D vwCl W0 H) (hD : va_D A0 W0) (hS : va_S A0 H0 H locs) (hA : ∀ q, H0.size ≤ q → A0 q) (hZ : fk_Zs A0 s H0)
    (hn : As.length = n) (hsize : ls.size = nL) (hst : st0 = As.reverse ++ rest) (hW : (rest.map fun v => v.category).sum ≤ 8) (hdg : decode cc pc = .ok (.invokestatic index, 3)) (hf : cells + 1 ≤ R.cells ∧ slots + 6 ≤ R.slots)
    (kx : ∀ (ce : Cell) (q9 : Addr) (H1 : Heap) (locs1 : List Loc), va_P D vwCl W0 H1 → va_S A0 H0 H1 locs1 → H1[q9]? = some ce → ce.vm = .none → s.vm.findClass E = some ce.cls → vx_W p l e R s m args below meth c H1 locs1 (cells + 1) (slots + 6) Q (F0 m pc ls rest) q9) : W p l e R s m args below meth c H locs cells slots Q (F0 m pc ls st0) :=
  fk_xcall rfl (vx_runS (As := As) (rest := rest) S9 (hC H.size) cw ⟨fk_blindX, fk_preX hP hK hD hS hA hZ⟩ rfl hn hsize hst (lv_room hW) hdg hf) hD hS hA kx
/-- what a callee throws goes on to the caller -/
theorem fk_thru (hout : ∀ x ∈ c.exceptionTable.toList, False) (hlocks : meth.locks = false) (hK : va_K D vwCl tys s) (hD : va_D A W0) (ce : Cell) (q9 : Addr) (H1 : Heap) (locs1 : List Loc) (hP : va_P D vwCl W0 H1) (hS : va_S A s.heap H1 locs1) (hce : H1[q9]? = some ce) (hcv : ce.vm = .none) (hcl : s.vm.findClass E = some ce.cls) :
    vx_W p l e R s m av.toArray below meth c H1 locs1 (0 + 1) (0 + 6) (fk_QX below D tys av s A W0 E) (F0 m pc ls rest) q9 :=
  vx_out (fun x hx => (hout x hx).elim) hlocks hce hcv hcl (fun t ht hvm => ⟨rfl, by rw [ht]; exact hP, va_K.moved hvm hK, hD, hS.F ht⟩) hS.2.2 (Nat.le_refl _) (Nat.le_refl _)
/-- throw new E("text") -/
theorem fk_throw {cls text : String} {ik is ic : Nat} (hx : p.tables.exec = Jvm.exec) (hb : c.code = cc) (hl9 : l.stackTraces = false) (hown : s.vm.findClass RX2 = some m.cls) (hcls : Bundle.fit cls = true)
    (hk : (Cond.classLink RX2 ik cls).before av.toArray s = true) (hini : (Cond.initialized cls).before av.toArray s = true) (hstr : (is, text) ∈ fk_strs) (hat : ∀ w ∈ vx_atS RX2 ic cls ["java/lang/RuntimeException", "java/lang/Exception"], w.before av.toArray s = true)
    (hgood : ∀ w ∈ Cond.classLink RX2 ik cls :: Cond.initialized cls :: vx_atS RX2 ic cls ["java/lang/RuntimeException", "java/lang/Exception"], vx_ot w = true)
    (hZ : fk_Zs A s s.heap) (hK : va_K D vwCl tys s) (hP : va_P D vwCl W0 H) (hD : va_D A W0) (hS : va_S A s.heap H locs) (hsize : ls.size = c.maxLocals) (hout : ∀ x ∈ c.exceptionTable.toList, False) (hlocks : meth.locks = false)
    (d0 : decode cc pc = .ok (.new ik, 3)) (d3 : decode cc (pc + 3) = .ok (.dup, 1)) (d4 : decode cc (pc + 4) = .ok (.ldc is, 2)) (d6 : decode cc (pc + 6) = .ok (.invokespecial ic, 3)) (d9 : decode cc (pc + 9) = .ok (.athrow, 1))
    (hR : 6 ≤ R.frames ∧ (rest.map fun v => v.category).sum + 82 ≤ R.locals ∧ 1 ≤ R.cells ∧ 6 ≤ R.slots) :
    W p l e R s m av.toArray below meth c H locs 0 0 (fk_QX below D tys av s A W0 cls) (F0 m pc ls rest) := by
  obtain ⟨sa, hsa⟩ := hZ.2.2.1 _ hstr
  refine vx_throwS (names := ["java/lang/RuntimeException", "java/lang/Exception"]) hx hb hl9 hown hcls (by decide +kernel) hk hini hsa hat hgood hZ.1 hZ.2.1 hS hsize d0 d3 d4 d6 d9 (fun x hx => (hout x hx).elim) (by show 2 + 3 < R.frames; omega) (by show _ + (13 * (2 + 1) + 43) ≤ R.locals; omega) (by omega) (by omega) hlocks ?_ hS.2.2 (Nat.le_refl _) (Nat.le_refl _)
  intro t hvm hz hq
  refine ⟨rfl, hP.kept (fun k q hk => hq q.1 (hP k q hk).lt), va_K.moved hvm hK, hD, ⟨Nat.le_trans hS.1 hz, fun q h1 h2 => ?_⟩⟩
  rw [hq q (Nat.lt_of_lt_of_le h1 hS.1)]
  exact hS.2.1 q h1 h2
end
theorem fk_b109 : ∀ w ∈ (vx_atS RX2 109 "java/lang/IndexOutOfBoundsException" ["java/lang/RuntimeException", "java/lang/Exception"]).filter (fun w => !goodWord w), w ∈ fk_bad := fun w h => List.mem_append_left _ h
theorem fk_b109g : ∀ w ∈ Cond.classLink RX2 105 "java/lang/IndexOutOfBoundsException" :: Cond.initialized "java/lang/IndexOutOfBoundsException" :: vx_atS RX2 109 "java/lang/IndexOutOfBoundsException" ["java/lang/RuntimeException", "java/lang/Exception"], vx_ot w = true := by decide +kernel
theorem fk_b88 : ∀ w ∈ (vx_atS RX2 88 "java/lang/IllegalStateException" ["java/lang/RuntimeException", "java/lang/Exception"]).filter (fun w => !goodWord w), w ∈ fk_bad := fun w h => List.mem_append_right _ (List.mem_append_left _ h)
theorem fk_b88g : ∀ w ∈ Cond.classLink RX2 84 "java/lang/IllegalStateException" :: Cond.initialized "java/lang/IllegalStateException" :: vx_atS RX2 88 "java/lang/IllegalStateException" ["java/lang/RuntimeException", "java/lang/Exception"], vx_ot w = true := by decide +kernel
theorem fk_b62 : ∀ w ∈ (vx_atS RX2 62 "java/lang/IllegalArgumentException" ["java/lang/RuntimeException", "java/lang/Exception"]).filter (fun w => !goodWord w), w ∈ fk_bad := fun w h => List.mem_append_right _ (List.mem_append_right _ h)
theorem fk_b62g : ∀ w ∈ Cond.classLink RX2 58 "java/lang/IllegalArgumentException" :: Cond.initialized "java/lang/IllegalArgumentException" :: vx_atS RX2 62 "java/lang/IllegalArgumentException" ["java/lang/RuntimeException", "java/lang/Exception"], vx_ot w = true := by decide +kernel
end
section
/-! the kernel's public methods, on the numbers of a state -/
def fk_btw (v lo hi : Int32) : Bool := decide (lo ≤ v) && decide (v ≤ hi)
def kk_await (S : fk_S) (t a : Nat) (x mk to : Int32) : fk_S := if S 0 a = x then kk_begin S t 1 (nI a) mk to else S
def kk_requeueR (S : fk_S) (a b : Nat) (x : Int32) (k j : Nat) : Int32 := if S 0 a = x then nI ((kk_wake (nI a) 255 k S).1 + (kk_move (nI a) (nI b) j (kk_wake (nI a) 255 k S).2).1) else -1
def kk_requeue (S : fk_S) (a b : Nat) (x : Int32) (k j : Nat) : fk_S := if S 0 a = x then (kk_move (nI a) (nI b) j (kk_wake (nI a) 255 k S).2).2 else S
def kk_lockR (S : fk_S) (t a : Nat) : Int32 :=
  if S 0 a &&& 255 = 0 then (if S 0 a &&& 1073741824 = 0 then 0 else 1) else match kk_owner S (nI a) with
    | none => 4
    | some o => if S 1 o = 3 then 4 else if o = t then 3 else if kk_held S t 8 (some o) = true then 3 else 2
def kk_lock (S : fk_S) (t a : Nat) (to : Int32) : fk_S :=
  if S 0 a &&& 255 = 0 then kk_give S t (nI a) (S 0 a &&& 1073741824) else match kk_owner S (nI a) with
    | none => S
    | some o => if S 1 o = 3 then S else if o = t then S else if kk_held S t 8 (some o) = true then S else kk_begin (fk_up S 0 a (S 0 a ||| (-2147483648))) t 2 (nI a) 255 to
def kk_unlock (S : fk_S) (t a : Nat) : fk_S := kk_pass (kk_drop S t (nI a)) (nI a) false
def kk_unlockR (S : fk_S) (t a : Nat) : Int32 := fk_oI (kk_lk (kk_drop S t (nI a)) (nI a))
/-- n rounds -/
def kk_bcl (S : fk_S) : Nat → Int32 → Int32
  | 0, x => x
  | n + 1, x => kk_bcl S n (x ||| kk_blk S x)
def kk_exl (t : Nat) : Nat → Nat → fk_S → Nat × fk_S
  | 0, _, S => (0, S)
  | n + 1, i, S => if kk_owner S (kk_addrAt S t (nI i)) = some t then ((kk_exl t n (i + 1) (kk_pass S (kk_addrAt S t (nI i)) true)).1 + 1, (kk_exl t n (i + 1) (kk_pass S (kk_addrAt S t (nI i)) true)).2) else kk_exl t n (i + 1) S
def kk_ex0 (S : fk_S) (t : Nat) : fk_S := fk_up (if kk_q S t = true then kk_leave S t else S) 1 t 3
def kk_exit (S : fk_S) (t : Nat) : fk_S := fk_up (kk_exl t (S 10 t).toNatClampNeg 0 (kk_ex0 S t)).2 10 t 0
def kk_exitR (S : fk_S) (t : Nat) : Int32 := nI (kk_exl t (S 10 t).toNatClampNeg 0 (kk_ex0 S t)).1
def kk_start (S : fk_S) (t : Nat) : fk_S := fk_up (fk_up (fk_up (fk_up S 1 t 0) 2 t 0) 8 t (-1)) 9 t 0
def kk_prio (S : fk_S) (t : Nat) (v : Int32) : fk_S := if v = S 2 t then S else if kk_q (fk_up S 2 t v) t = true then kk_join (fk_up S 2 t v) t (S 3 t) else fk_up S 2 t v
def kk_tickL (e : Int32) : Nat → fk_S → Nat × fk_S
  | 0, S => (0, S)
  | n + 1, S => match kk_next S with
    | none => (0, S)
    | some t => if S 5 t ≤ e then ((kk_tickL e n (kk_end S t 1)).1 + 1, (kk_tickL e n (kk_end S t 1)).2) else (0, S)
def kk_tick (S : fk_S) (v : Int32) : fk_S := fk_up (kk_tickL (S 12 0 + v) 8 S).2 12 0 (S 12 0 + v)
def kk_tickR (S : fk_S) (v : Int32) : Int32 := nI (kk_tickL (S 12 0 + v) 8 S).1
def kk_nextR (S : fk_S) : Int32 := match kk_next S with
  | none => -1
  | some t => S 5 t - S 12 0
def kk_waiters (S : fk_S) (a : Int32) : Int32 := fk_lp (kk_cnt1 (fun u => decide (S 3 u = a))) 8 0 0
/-- the first that has the property -/
def fk_seek (p : Nat → Bool) : Nat → Nat → Option Nat
  | 0, _ => none
  | n + 1, i => if p i = true then some i else fk_seek p n (i + 1)
def kk_wAt (S : fk_S) (a q : Int32) : Option Nat := fk_seek (fun u => decide (S 3 u = a) && decide (kk_cntA S u = q)) 8 0
def kk_qAt (S : fk_S) (b q : Int32) : Option Nat := fk_seek (fun u => kk_q S u && decide (fk_bkt (S 3 u) = b) && decide (kk_cntB S u = q)) 8 0
theorem fk_seek_spec {p : Nat → Bool} : ∀ (n i : Nat) {u : Nat}, fk_seek p n i = some u → i ≤ u ∧ u < i + n ∧ p u = true := by
  intro n
  induction n with
  | zero => intro i u h; cases h
  | succ n ih =>
    intro i u h
    simp only [fk_seek] at h
    by_cases e : p i = true
    · rw [if_pos e] at h
      cases h
      exact ⟨Nat.le_refl _, by omega, e⟩
    · rw [if_neg e] at h
      have := ih (i + 1) h
      exact ⟨by omega, by omega, this.2.2⟩
theorem kk_add_sz {S : fk_S} {t : Nat} {a : Int32} (h : fk_sz S) : fk_sz (kk_add S t a) := by
  unfold kk_add
  split
  · next hc =>
    intro u hu
    obtain ⟨k, hk, e⟩ := h u hu
    by_cases ht : u = t
    · subst ht
      refine ⟨k + 1, ?_, ?_⟩
      · have h2 := hc.2
        rw [e] at h2
        have := (nI_ltI (b := 16) (by omega) (by decide)).mp h2
        omega
      · rw [fk_up_s, e, nI_1]
    · refine ⟨k, hk, ?_⟩
      rw [fk_up_i ht, fk_up_f (by decide), e]
  · exact h
theorem kk_give_sz {S : fk_S} {t : Nat} {a d : Int32} (h : fk_sz S) : fk_sz (kk_give S t a d) := by
  unfold kk_give
  split
  · exact kk_add_sz (fk_sz_of (fk_up_10 (by decide)) h)
  · exact h
theorem kk_pass_sz {S : fk_S} {a : Int32} {b : Bool} (h : fk_sz S) : fk_sz (kk_pass S a b) := by
  unfold kk_pass
  split
  · split
    · exact fk_sz_of (fk_up_10 (by decide)) h
    · exact h
  · exact kk_give_sz (fk_sz_of (kk_end_10 _ _ _) h)
theorem fk_shift_10 (t : Nat) : ∀ (n k : Nat) (S : fk_S), fk_shift t n k S 10 = S 10 := by
  intro n
  induction n with
  | zero => intro k S; rfl
  | succ n ih => intro k S; simp only [fk_shift]; rw [ih, fk_up_f (by decide)]
theorem kk_drop_sz {S : fk_S} {t : Nat} {a : Int32} (ht : t < 8) (h : fk_sz S) : fk_sz (kk_drop S t a) := by
  unfold kk_drop
  split
  · exact h
  · next p hp =>
    intro u hu
    obtain ⟨k, hk, e⟩ := h u hu
    by_cases e9 : u = t
    · subst e9
      have hl := fk_place_lt hk e hp
      refine ⟨k - 1, by omega, ?_⟩
      rw [fk_up_s, e]
      obtain ⟨q, rfl⟩ : ∃ q, k = q + 1 := ⟨k - 1, by omega⟩
      rw [nI_pred]
      rfl
    · exact ⟨k, hk, by rw [fk_up_i e9, fk_shift_10, e]⟩
theorem kk_ex0_sz {S : fk_S} {t : Nat} (h : fk_sz S) : fk_sz (kk_ex0 S t) := by
  unfold kk_ex0
  refine fk_sz_of (fk_up_10 (by decide)) ?_
  split
  · exact fk_sz_of (kk_leave_10 _ _) h
  · exact h
theorem kk_exl_sz {t : Nat} : ∀ (n i : Nat) (S : fk_S), fk_sz S → fk_sz (kk_exl t n i S).2 := by
  intro n
  induction n with
  | zero => intro i S h; exact h
  | succ n ih =>
    intro i S h
    simp only [kk_exl]
    split
    · exact ih _ _ (kk_pass_sz h)
    · exact ih _ _ h
end
section
abbrev rx_grd : Room := { frames := 6, cells := 1, slots := 6, locals := 110 }
abbrev rx_pub : Room := { frames := 7, cells := 1, slots := 6, locals := 150 }

abbrev rmX2_taskOf : Room := { frames := 0, cells := 0, slots := 0, locals := 0 }
set_option maxHeartbeats 4000000 in
set_option maxRecDepth 100000 in
theorem kc_taskOf (l : Launch) (D : va_G) (ad : Nat → Nat) (cI cT cJ : ClassId) (X : va_W) (S : fk_S) (t : Nat) (ht : t < 8) : fk_C l D (fk_ty cI cT cJ) yX2_taskOf wsX2_taskOf rmX2_taskOf [.ref (ad 0), .int (nI t)] (fk_kW ad cI cT S ++ X) (fk_vT ad (some t)) (fk_kW ad cI cT S ++ X) := by
  refine fk_C_of (cc := cX2_taskOf) (maxL := 2) (ret := (some (.object "FutexKernel$Task"))) (own := RX2) (by decide) rfl rfl (Nat.le_of_ble_eq_true rfl) ?_
  intro p e s m below meth c A ls hx hb hr hlocks hml hts hown hA hP hK hD hl
  have hS : va_S A s.heap s.heap [] := va_S.rf
  have hl : lv_has ls 2 [(0, .ref (ad 0)), (1, .int (nI t))] := hl
  have hiX2 : ∀ w ∈ u_ws RX2 TX2 6, w ∈ wsX2_taskOf := by decide +kernel
  refine lv_iload_n hx hb dX2_taskOf_0 rfl (lv_at hl 1 rfl) ?_
  refine lv_if_lt (tgt := 10) hx hb dX2_taskOf_1 (by decide) (fun c_1 => absurd c_1 (nI_pos (by omega))) (fun c_1 => ?_)
  refine lv_iload_n hx hb dX2_taskOf_4 rfl (lv_at hl 1 rfl) ?_
  refine lv_bipush (v := 8) hx hb dX2_taskOf_5 (by decide) ?_
  refine lv_icmp_lt (tgt := 20) hx hb dX2_taskOf_7 (by decide) (fun c_2 => ?_) (fun c_2 => absurd (nI_lt (b := 8) ht (by decide)) c_2)
  refine lv_aload_n hx hb dX2_taskOf_20 rfl (lv_at hl 0 rfl) ?_
  refine fk_getK hx hb hts hiX2 hown hK hP 1 (by decide) (v := .ref (ad 2)) rfl (List.mem_of_getElem? (i := 3) rfl) rfl dX2_taskOf_21 ?_
  refine lv_iload_n hx hb dX2_taskOf_24 rfl (lv_at hl 1 rfl) ?_
  refine fk_ldA hx hb hK hP (vp_in_nI (show t < 8 from (by omega)) (by decide)) dX2_taskOf_25 ?_
  refine W.eq (g2 := F0 m 26 ls [.ref (ad (3 + t))]) (by rw [nI_clamp (by omega)]) ?_
  exact fk_aret hx hb hr (Or.inl ⟨_, rfl⟩) (Or.inr ⟨_, rfl⟩) hlocks hP hK hD hS (congrArg (fun z => fk_kW ad cI cT z ++ X) (by first | rfl | simp [c_1, c_2])) (by rfl) dX2_taskOf_26

set_option maxHeartbeats 4000000 in
set_option maxRecDepth 100000 in
theorem kx_taskOf (l : Launch) (D : va_G) (ad : Nat → Nat) (cI cT cJ : ClassId) (X : va_W) (S : fk_S) (hst : l.stackTraces = false) (th : Int32) (h : fk_isT th = false) : fk_X l D (fk_ty cI cT cJ) yX2_taskOf wsX2_taskOf rx_grd [.ref (ad 0), .int th] (fk_kW ad cI cT S ++ X) "java/lang/IndexOutOfBoundsException" := by
  refine fk_X_of (cc := cX2_taskOf) (maxL := 2) (ret := (some (.object "FutexKernel$Task"))) (own := RX2) (by decide) rfl rfl (Nat.le_of_ble_eq_true rfl) ?_
  intro p e s m below meth c A ls hx hb hout hlocks hml hts hown hA hP hK hD hZ hl
  have hS : va_S A s.heap s.heap [] := va_S.rf
  have hl : lv_has ls 2 [(0, .ref (ad 0)), (1, .int th)] := hl
  refine lv_iload_n hx hb dX2_taskOf_0 rfl (lv_at hl 1 rfl) ?_
  refine lv_if_lt (tgt := 10) hx hb dX2_taskOf_1 (by decide) (fun c_1 => ?_) (fun c_1 => ?_)
  · exact fk_throw (cls := "java/lang/IndexOutOfBoundsException") (text := "no such thread") (ik := 105) (is := 184) (ic := 109) (rest := []) hx hb hst hown (by decide +kernel) (hts _ (List.mem_of_getElem? (i := 1) rfl)) (hts _ (List.mem_of_getElem? (i := 2) rfl)) (by decide +kernel) (vx_hat (fun w h => hts w (List.mem_cons_of_mem _ (List.mem_append_right _ h))) fk_b109 (fun w h => va_Nw.use (fk_dc_on (fk_bad_dc w h)) (hZ.2.2.2 w h))) fk_b109g hZ hK hP hD hS (hl.1.trans hml.symm) hout hlocks dX2_taskOf_10 dX2_taskOf_13 dX2_taskOf_14 dX2_taskOf_16 dX2_taskOf_19 ⟨Nat.le_of_ble_eq_true rfl, Nat.le_of_ble_eq_true rfl, Nat.le_of_ble_eq_true rfl, Nat.le_of_ble_eq_true rfl⟩
  · refine lv_iload_n hx hb dX2_taskOf_4 rfl (lv_at hl 1 rfl) ?_
    refine lv_bipush (v := 8) hx hb dX2_taskOf_5 (by decide) ?_
    refine lv_icmp_lt (tgt := 20) hx hb dX2_taskOf_7 (by decide) (fun c_2 => absurd c_2 (fun h9 => by simp [fk_isT, Int32.not_lt.mp c_1, h9] at h)) (fun c_2 => ?_)
    exact fk_throw (cls := "java/lang/IndexOutOfBoundsException") (text := "no such thread") (ik := 105) (is := 184) (ic := 109) (rest := []) hx hb hst hown (by decide +kernel) (hts _ (List.mem_of_getElem? (i := 1) rfl)) (hts _ (List.mem_of_getElem? (i := 2) rfl)) (by decide +kernel) (vx_hat (fun w h => hts w (List.mem_cons_of_mem _ (List.mem_append_right _ h))) fk_b109 (fun w h => va_Nw.use (fk_dc_on (fk_bad_dc w h)) (hZ.2.2.2 w h))) fk_b109g hZ hK hP hD hS (hl.1.trans hml.symm) hout hlocks dX2_taskOf_10 dX2_taskOf_13 dX2_taskOf_14 dX2_taskOf_16 dX2_taskOf_19 ⟨Nat.le_of_ble_eq_true rfl, Nat.le_of_ble_eq_true rfl, Nat.le_of_ble_eq_true rfl, Nat.le_of_ble_eq_true rfl⟩

abbrev rmX2_requireAddress : Room := { frames := 1, cells := 0, slots := 0, locals := 20 }
set_option maxHeartbeats 4000000 in
set_option maxRecDepth 100000 in
theorem kc_requireAddress (l : Launch) (D : va_G) (ad : Nat → Nat) (cI cT cJ : ClassId) (X : va_W) (S : fk_S) (a : Nat) (ha : a < 16) : fk_C l D (fk_ty cI cT cJ) yX2_requireAddress wsX2_requireAddress rmX2_requireAddress [.int (nI a)] (fk_kW ad cI cT S ++ X) none (fk_kW ad cI cT S ++ X) := by
  refine fk_C_of (cc := cX2_requireAddress) (maxL := 1) (ret := none) (own := RX2) (by decide) rfl rfl (Nat.le_of_ble_eq_true rfl) ?_
  intro p e s m below meth c A ls hx hb hr hlocks hml hts hown hA hP hK hD hl
  have hS : va_S A s.heap s.heap [] := va_S.rf
  have hl : lv_has ls 1 [(0, .int (nI a))] := hl
  refine lv_iload_n hx hb dX2_requireAddress_0 rfl (lv_at hl 0 rfl) ?_
  refine fk_callS (As := [.int (nI a)]) (rest := []) ⟨hx, hb, hml, hown, hts⟩ (by have h9 := (kc_isAddress l D ad cI cT cJ X S (nI a)); rw [fk_isA_nI ha] at h9; exact h9) (va_cwS 1 hts gX2_requireAddress_X2_isAddress rfl rfl rfl (by decide +kernel) ⟨Nat.le_of_ble_eq_true rfl, Nat.le_of_ble_eq_true rfl⟩) hK hP hD hS hA rfl hl.1 rfl (Nat.le_of_ble_eq_true rfl) dX2_requireAddress_1 ⟨Nat.le_of_ble_eq_true rfl, Nat.le_of_ble_eq_true rfl⟩ (fun H locs hP hD hS => ?_)
  refine W.eq (g2 := F0 m 4 ls [.int 1]) rfl ?_
  refine lv_if_ne (tgt := 17) hx hb dX2_requireAddress_4 (by decide) (fun _ => ?_) (fun c => absurd c (by decide))
  exact fk_vret hx hb hr hlocks hP hK hD hS (congrArg (fun z => fk_kW ad cI cT z ++ X) (by first | rfl | simp [])) (by rfl) dX2_requireAddress_17

set_option maxHeartbeats 4000000 in
set_option maxRecDepth 100000 in
theorem kx_requireAddress (l : Launch) (D : va_G) (ad : Nat → Nat) (cI cT cJ : ClassId) (X : va_W) (S : fk_S) (hst : l.stackTraces = false) (a : Int32) (h : fk_isA a = false) : fk_X l D (fk_ty cI cT cJ) yX2_requireAddress wsX2_requireAddress rx_grd [.int a] (fk_kW ad cI cT S ++ X) "java/lang/IndexOutOfBoundsException" := by
  refine fk_X_of (cc := cX2_requireAddress) (maxL := 1) (ret := none) (own := RX2) (by decide) rfl rfl (Nat.le_of_ble_eq_true rfl) ?_
  intro p e s m below meth c A ls hx hb hout hlocks hml hts hown hA hP hK hD hZ hl
  have hS : va_S A s.heap s.heap [] := va_S.rf
  have hl : lv_has ls 1 [(0, .int a)] := hl
  refine lv_iload_n hx hb dX2_requireAddress_0 rfl (lv_at hl 0 rfl) ?_
  refine fk_callS (As := [.int a]) (rest := []) ⟨hx, hb, hml, hown, hts⟩ (by have h9 := (kc_isAddress l D ad cI cT cJ X S a); rw [h] at h9; exact h9) (va_cwS 1 hts gX2_requireAddress_X2_isAddress rfl rfl rfl (by decide +kernel) ⟨Nat.le_of_ble_eq_true rfl, Nat.le_of_ble_eq_true rfl⟩) hK hP hD hS hA rfl hl.1 rfl (Nat.le_of_ble_eq_true rfl) dX2_requireAddress_1 ⟨Nat.le_of_ble_eq_true rfl, Nat.le_of_ble_eq_true rfl⟩ (fun H locs hP hD hS => ?_)
  refine W.eq (g2 := F0 m 4 ls [.int 0]) rfl ?_
  refine lv_if_ne (tgt := 17) hx hb dX2_requireAddress_4 (by decide) (fun c => absurd c (by decide)) (fun _ => ?_)
  exact fk_throw (cls := "java/lang/IndexOutOfBoundsException") (text := "no such address") (ik := 105) (is := 190) (ic := 109) (rest := []) hx hb hst hown (by decide +kernel) (hts _ (List.mem_of_getElem? (i := 1) rfl)) (hts _ (List.mem_of_getElem? (i := 2) rfl)) (by decide +kernel) (vx_hat (fun w h => hts w (List.mem_cons_of_mem _ (List.mem_append_right _ h))) fk_b109 (fun w h => va_Nw.use (fk_dc_on (fk_bad_dc w h)) (hZ.2.2.2 w h))) fk_b109g hZ hK hP hD hS (hl.1.trans hml.symm) hout hlocks dX2_requireAddress_7 dX2_requireAddress_10 dX2_requireAddress_11 dX2_requireAddress_13 dX2_requireAddress_16 ⟨Nat.le_of_ble_eq_true rfl, Nat.le_of_ble_eq_true rfl, Nat.le_of_ble_eq_true rfl, Nat.le_of_ble_eq_true rfl⟩

abbrev rmX2_requireBetween : Room := { frames := 0, cells := 0, slots := 0, locals := 0 }
set_option maxHeartbeats 4000000 in
set_option maxRecDepth 100000 in
theorem kc_requireBetween (l : Launch) (D : va_G) (ad : Nat → Nat) (cI cT cJ : ClassId) (X : va_W) (S : fk_S) (v lo hi : Int32) (h : fk_btw v lo hi = true) : fk_C l D (fk_ty cI cT cJ) yX2_requireBetween wsX2_requireBetween rmX2_requireBetween [.int v, .int lo, .int hi] (fk_kW ad cI cT S ++ X) none (fk_kW ad cI cT S ++ X) := by
  refine fk_C_of (cc := cX2_requireBetween) (maxL := 3) (ret := none) (own := RX2) (by decide) rfl rfl (Nat.le_of_ble_eq_true rfl) ?_
  intro p e s m below meth c A ls hx hb hr hlocks hml hts hown hA hP hK hD hl
  have hS : va_S A s.heap s.heap [] := va_S.rf
  have hl : lv_has ls 3 [(0, .int v), (1, .int lo), (2, .int hi)] := hl
  simp only [fk_btw, Bool.and_eq_true, decide_eq_true_eq] at h
  refine lv_iload_n hx hb dX2_requireBetween_0 rfl (lv_at hl 0 rfl) ?_
  refine lv_iload_n hx hb dX2_requireBetween_1 rfl (lv_at hl 1 rfl) ?_
  refine lv_icmp_lt (tgt := 10) hx hb dX2_requireBetween_2 (by decide) (fun c_1 => absurd c_1 (Int32.not_lt.mpr h.1)) (fun c_1 => ?_)
  refine lv_iload_n hx hb dX2_requireBetween_5 rfl (lv_at hl 0 rfl) ?_
  refine lv_iload_n hx hb dX2_requireBetween_6 rfl (lv_at hl 2 rfl) ?_
  refine lv_icmp_le (tgt := 20) hx hb dX2_requireBetween_7 (by decide) (fun c_2 => ?_) (fun c_2 => absurd h.2 c_2)
  exact fk_vret hx hb hr hlocks hP hK hD hS (congrArg (fun z => fk_kW ad cI cT z ++ X) (by first | rfl | simp [c_1, c_2])) (by rfl) dX2_requireBetween_20

set_option maxHeartbeats 4000000 in
set_option maxRecDepth 100000 in
theorem kx_requireBetween (l : Launch) (D : va_G) (ad : Nat → Nat) (cI cT cJ : ClassId) (X : va_W) (S : fk_S) (hst : l.stackTraces = false) (v lo hi : Int32) (h : fk_btw v lo hi = false) : fk_X l D (fk_ty cI cT cJ) yX2_requireBetween wsX2_requireBetween rx_grd [.int v, .int lo, .int hi] (fk_kW ad cI cT S ++ X) "java/lang/IllegalArgumentException" := by
  refine fk_X_of (cc := cX2_requireBetween) (maxL := 3) (ret := none) (own := RX2) (by decide) rfl rfl (Nat.le_of_ble_eq_true rfl) ?_
  intro p e s m below meth c A ls hx hb hout hlocks hml hts hown hA hP hK hD hZ hl
  have hS : va_S A s.heap s.heap [] := va_S.rf
  have hl : lv_has ls 3 [(0, .int v), (1, .int lo), (2, .int hi)] := hl
  refine lv_iload_n hx hb dX2_requireBetween_0 rfl (lv_at hl 0 rfl) ?_
  refine lv_iload_n hx hb dX2_requireBetween_1 rfl (lv_at hl 1 rfl) ?_
  refine lv_icmp_lt (tgt := 10) hx hb dX2_requireBetween_2 (by decide) (fun c_1 => ?_) (fun c_1 => ?_)
  · exact fk_throw (cls := "java/lang/IllegalArgumentException") (text := "out of range") (ik := 58) (is := 192) (ic := 62) (rest := []) hx hb hst hown (by decide +kernel) (hts _ (List.mem_of_getElem? (i := 1) rfl)) (hts _ (List.mem_of_getElem? (i := 2) rfl)) (by decide +kernel) (vx_hat (fun w h => hts w (List.mem_cons_of_mem _ (List.mem_append_right _ h))) fk_b62 (fun w h => va_Nw.use (fk_dc_on (fk_bad_dc w h)) (hZ.2.2.2 w h))) fk_b62g hZ hK hP hD hS (hl.1.trans hml.symm) hout hlocks dX2_requireBetween_10 dX2_requireBetween_13 dX2_requireBetween_14 dX2_requireBetween_16 dX2_requireBetween_19 ⟨Nat.le_of_ble_eq_true rfl, Nat.le_of_ble_eq_true rfl, Nat.le_of_ble_eq_true rfl, Nat.le_of_ble_eq_true rfl⟩
  · refine lv_iload_n hx hb dX2_requireBetween_5 rfl (lv_at hl 0 rfl) ?_
    refine lv_iload_n hx hb dX2_requireBetween_6 rfl (lv_at hl 2 rfl) ?_
    refine lv_icmp_le (tgt := 20) hx hb dX2_requireBetween_7 (by decide) (fun c_2 => absurd c_2 (fun h9 => by simp [fk_btw, Int32.not_lt.mp c_1, h9] at h)) (fun c_2 => ?_)
    exact fk_throw (cls := "java/lang/IllegalArgumentException") (text := "out of range") (ik := 58) (is := 192) (ic := 62) (rest := []) hx hb hst hown (by decide +kernel) (hts _ (List.mem_of_getElem? (i := 1) rfl)) (hts _ (List.mem_of_getElem? (i := 2) rfl)) (by decide +kernel) (vx_hat (fun w h => hts w (List.mem_cons_of_mem _ (List.mem_append_right _ h))) fk_b62 (fun w h => va_Nw.use (fk_dc_on (fk_bad_dc w h)) (hZ.2.2.2 w h))) fk_b62g hZ hK hP hD hS (hl.1.trans hml.symm) hout hlocks dX2_requireBetween_10 dX2_requireBetween_13 dX2_requireBetween_14 dX2_requireBetween_16 dX2_requireBetween_19 ⟨Nat.le_of_ble_eq_true rfl, Nat.le_of_ble_eq_true rfl, Nat.le_of_ble_eq_true rfl, Nat.le_of_ble_eq_true rfl⟩

abbrev rmX2_requireRunning : Room := { frames := 0, cells := 0, slots := 0, locals := 0 }
set_option maxHeartbeats 4000000 in
set_option maxRecDepth 100000 in
theorem kc_requireRunning (l : Launch) (D : va_G) (ad : Nat → Nat) (cI cT cJ : ClassId) (X : va_W) (S : fk_S) (t : Nat) (ht : t < 8) (h : S 1 t = 0) : fk_C l D (fk_ty cI cT cJ) yX2_requireRunning wsX2_requireRunning rmX2_requireRunning [.ref (ad (3 + t))] (fk_kW ad cI cT S ++ X) none (fk_kW ad cI cT S ++ X) := by
  refine fk_C_of (cc := cX2_requireRunning) (maxL := 1) (ret := none) (own := RX2) (by decide) rfl rfl (Nat.le_of_ble_eq_true rfl) ?_
  intro p e s m below meth c A ls hx hb hr hlocks hml hts hown hA hP hK hD hl
  have hS : va_S A s.heap s.heap [] := va_S.rf
  have hl : lv_has ls 1 [(0, .ref (ad (3 + t)))] := hl
  have hiX1 : ∀ w ∈ u_ws RX1 TX1 11, w ∈ wsX2_requireRunning := by decide +kernel
  refine lv_aload_n hx hb dX2_requireRunning_0 rfl (lv_at hl 0 rfl) ?_
  refine fk_getT hx hb hts hiX1 hown hK hP ht 2 (by decide) (v := .int (S 1 t)) rfl (List.mem_of_getElem? (i := 3) rfl) rfl dX2_requireRunning_1 ?_
  refine lv_if_eq (tgt := 17) hx hb dX2_requireRunning_4 (by decide) (fun c_1 => ?_) (fun c_1 => absurd h c_1)
  exact fk_vret hx hb hr hlocks hP hK hD hS (congrArg (fun z => fk_kW ad cI cT z ++ X) (by first | rfl | simp [c_1])) (by rfl) dX2_requireRunning_17

set_option maxHeartbeats 4000000 in
set_option maxRecDepth 100000 in
theorem kx_requireRunning (l : Launch) (D : va_G) (ad : Nat → Nat) (cI cT cJ : ClassId) (X : va_W) (S : fk_S) (hst : l.stackTraces = false) (t : Nat) (ht : t < 8) (h : ¬ S 1 t = 0) : fk_X l D (fk_ty cI cT cJ) yX2_requireRunning wsX2_requireRunning rx_grd [.ref (ad (3 + t))] (fk_kW ad cI cT S ++ X) "java/lang/IllegalStateException" := by
  refine fk_X_of (cc := cX2_requireRunning) (maxL := 1) (ret := none) (own := RX2) (by decide) rfl rfl (Nat.le_of_ble_eq_true rfl) ?_
  intro p e s m below meth c A ls hx hb hout hlocks hml hts hown hA hP hK hD hZ hl
  have hS : va_S A s.heap s.heap [] := va_S.rf
  have hl : lv_has ls 1 [(0, .ref (ad (3 + t)))] := hl
  have hiX1 : ∀ w ∈ u_ws RX1 TX1 11, w ∈ wsX2_requireRunning := by decide +kernel
  refine lv_aload_n hx hb dX2_requireRunning_0 rfl (lv_at hl 0 rfl) ?_
  refine fk_getT hx hb hts hiX1 hown hK hP ht 2 (by decide) (v := .int (S 1 t)) rfl (List.mem_of_getElem? (i := 3) rfl) rfl dX2_requireRunning_1 ?_
  refine lv_if_eq (tgt := 17) hx hb dX2_requireRunning_4 (by decide) (fun c_1 => absurd c_1 h) (fun c_1 => ?_)
  exact fk_throw (cls := "java/lang/IllegalStateException") (text := "not RUNNING") (ik := 84) (is := 194) (ic := 88) (rest := []) hx hb hst hown (by decide +kernel) (hts _ (List.mem_of_getElem? (i := 1) rfl)) (hts _ (List.mem_of_getElem? (i := 2) rfl)) (by decide +kernel) (vx_hat (fun w h => hts w (List.mem_cons_of_mem _ (List.mem_append_right _ h))) fk_b88 (fun w h => va_Nw.use (fk_dc_on (fk_bad_dc w h)) (hZ.2.2.2 w h))) fk_b88g hZ hK hP hD hS (hl.1.trans hml.symm) hout hlocks dX2_requireRunning_7 dX2_requireRunning_10 dX2_requireRunning_11 dX2_requireRunning_13 dX2_requireRunning_16 ⟨Nat.le_of_ble_eq_true rfl, Nat.le_of_ble_eq_true rfl, Nat.le_of_ble_eq_true rfl, Nat.le_of_ble_eq_true rfl⟩

abbrev rmX2_requireAlive : Room := { frames := 0, cells := 0, slots := 0, locals := 0 }
set_option maxHeartbeats 4000000 in
set_option maxRecDepth 100000 in
theorem kc_requireAlive (l : Launch) (D : va_G) (ad : Nat → Nat) (cI cT cJ : ClassId) (X : va_W) (S : fk_S) (t : Nat) (ht : t < 8) (h : ¬ S 1 t = 3) : fk_C l D (fk_ty cI cT cJ) yX2_requireAlive wsX2_requireAlive rmX2_requireAlive [.ref (ad (3 + t))] (fk_kW ad cI cT S ++ X) none (fk_kW ad cI cT S ++ X) := by
  refine fk_C_of (cc := cX2_requireAlive) (maxL := 1) (ret := none) (own := RX2) (by decide) rfl rfl (Nat.le_of_ble_eq_true rfl) ?_
  intro p e s m below meth c A ls hx hb hr hlocks hml hts hown hA hP hK hD hl
  have hS : va_S A s.heap s.heap [] := va_S.rf
  have hl : lv_has ls 1 [(0, .ref (ad (3 + t)))] := hl
  have hiX1 : ∀ w ∈ u_ws RX1 TX1 11, w ∈ wsX2_requireAlive := by decide +kernel
  refine lv_aload_n hx hb dX2_requireAlive_0 rfl (lv_at hl 0 rfl) ?_
  refine fk_getT hx hb hts hiX1 hown hK hP ht 2 (by decide) (v := .int (S 1 t)) rfl (List.mem_of_getElem? (i := 3) rfl) rfl dX2_requireAlive_1 ?_
  refine lv_iconst (v := 3) hx hb dX2_requireAlive_4 (by decide) ?_
  refine lv_icmp_ne (tgt := 18) hx hb dX2_requireAlive_5 (by decide) (fun c_1 => ?_) (fun c => absurd c h)
  exact fk_vret hx hb hr hlocks hP hK hD hS (congrArg (fun z => fk_kW ad cI cT z ++ X) (by first | rfl | simp [c_1])) (by rfl) dX2_requireAlive_18

set_option maxHeartbeats 4000000 in
set_option maxRecDepth 100000 in
theorem kx_requireAlive (l : Launch) (D : va_G) (ad : Nat → Nat) (cI cT cJ : ClassId) (X : va_W) (S : fk_S) (hst : l.stackTraces = false) (t : Nat) (ht : t < 8) (h : S 1 t = 3) : fk_X l D (fk_ty cI cT cJ) yX2_requireAlive wsX2_requireAlive rx_grd [.ref (ad (3 + t))] (fk_kW ad cI cT S ++ X) "java/lang/IllegalStateException" := by
  refine fk_X_of (cc := cX2_requireAlive) (maxL := 1) (ret := none) (own := RX2) (by decide) rfl rfl (Nat.le_of_ble_eq_true rfl) ?_
  intro p e s m below meth c A ls hx hb hout hlocks hml hts hown hA hP hK hD hZ hl
  have hS : va_S A s.heap s.heap [] := va_S.rf
  have hl : lv_has ls 1 [(0, .ref (ad (3 + t)))] := hl
  have hiX1 : ∀ w ∈ u_ws RX1 TX1 11, w ∈ wsX2_requireAlive := by decide +kernel
  refine lv_aload_n hx hb dX2_requireAlive_0 rfl (lv_at hl 0 rfl) ?_
  refine fk_getT hx hb hts hiX1 hown hK hP ht 2 (by decide) (v := .int (S 1 t)) rfl (List.mem_of_getElem? (i := 3) rfl) rfl dX2_requireAlive_1 ?_
  refine lv_iconst (v := 3) hx hb dX2_requireAlive_4 (by decide) ?_
  refine lv_icmp_ne (tgt := 18) hx hb dX2_requireAlive_5 (by decide) (fun c_1 => absurd c_1 (fun h9 => h9 h)) (fun c_1 => ?_)
  exact fk_throw (cls := "java/lang/IllegalStateException") (text := "DEAD") (ik := 84) (is := 196) (ic := 88) (rest := []) hx hb hst hown (by decide +kernel) (hts _ (List.mem_of_getElem? (i := 1) rfl)) (hts _ (List.mem_of_getElem? (i := 2) rfl)) (by decide +kernel) (vx_hat (fun w h => hts w (List.mem_cons_of_mem _ (List.mem_append_right _ h))) fk_b88 (fun w h => va_Nw.use (fk_dc_on (fk_bad_dc w h)) (hZ.2.2.2 w h))) fk_b88g hZ hK hP hD hS (hl.1.trans hml.symm) hout hlocks dX2_requireAlive_8 dX2_requireAlive_11 dX2_requireAlive_12 dX2_requireAlive_14 dX2_requireAlive_17 ⟨Nat.le_of_ble_eq_true rfl, Nat.le_of_ble_eq_true rfl, Nat.le_of_ble_eq_true rfl, Nat.le_of_ble_eq_true rfl⟩
end
section
set_option maxHeartbeats 4000000 in
set_option maxRecDepth 100000 in
theorem kx_store_1 (l : Launch) (D : va_G) (ad : Nat → Nat) (cI cT cJ : ClassId) (X : va_W) (S : fk_S) (hst : l.stackTraces = false) (th av : Int32) (v : Int32) (h : fk_isT th = false) : fk_X l D (fk_ty cI cT cJ) yX2_store wsX2_store rx_pub [.ref (ad 0), .int th, .int av, .int v] (fk_kW ad cI cT S ++ X) "java/lang/IndexOutOfBoundsException" := by
  refine fk_X_of (cc := cX2_store) (maxL := 6) (ret := (some .int)) (own := RX2) (by decide) rfl rfl (Nat.le_of_ble_eq_true rfl) ?_
  intro p e s m below meth c A ls hx hb hout hlocks hml hts hown hA hP hK hD hZ hl
  have hS : va_S A s.heap s.heap [] := va_S.rf
  have hl : lv_has ls 6 [(0, .ref (ad 0)), (1, .int th), (2, .int av), (3, .int v)] := hl
  refine lv_aload_n hx hb dX2_store_0 rfl (lv_at hl 0 rfl) ?_
  refine lv_iload_n hx hb dX2_store_1 rfl (lv_at hl 1 rfl) ?_
  exact fk_xcallV (As := [.int th]) (rest := []) ⟨hx, hb, hml, hown, hts⟩ (kx_taskOf l D ad cI cT cJ X S hst th h) (cwV 1 hts gX2_store_X2_taskOf rfl rfl rfl (by decide +kernel) ⟨Nat.le_of_ble_eq_true rfl, Nat.le_of_ble_eq_true rfl⟩) (fk_rvK hK hP) hK hP hD hS hA hZ rfl hl.1 rfl (Nat.le_of_ble_eq_true rfl) dX2_store_2 ⟨Nat.le_of_ble_eq_true rfl, Nat.le_of_ble_eq_true rfl⟩ (fk_thru hout hlocks hK hD)

set_option maxHeartbeats 4000000 in
set_option maxRecDepth 100000 in
theorem kx_store_2 (l : Launch) (D : va_G) (ad : Nat → Nat) (cI cT cJ : ClassId) (X : va_W) (S : fk_S) (hst : l.stackTraces = false) (t : Nat) (ht : t < 8) (av : Int32) (v : Int32) (h : fk_isA av = false) : fk_X l D (fk_ty cI cT cJ) yX2_store wsX2_store rx_pub [.ref (ad 0), .int (nI t), .int av, .int v] (fk_kW ad cI cT S ++ X) "java/lang/IndexOutOfBoundsException" := by
  refine fk_X_of (cc := cX2_store) (maxL := 6) (ret := (some .int)) (own := RX2) (by decide) rfl rfl (Nat.le_of_ble_eq_true rfl) ?_
  intro p e s m below meth c A ls hx hb hout hlocks hml hts hown hA hP hK hD hZ hl
  have hS : va_S A s.heap s.heap [] := va_S.rf
  have hl : lv_has ls 6 [(0, .ref (ad 0)), (1, .int (nI t)), (2, .int av), (3, .int v)] := hl
  refine lv_aload_n hx hb dX2_store_0 rfl (lv_at hl 0 rfl) ?_
  refine lv_iload_n hx hb dX2_store_1 rfl (lv_at hl 1 rfl) ?_
  refine fk_callV (As := [.int (nI t)]) (rest := []) ⟨hx, hb, hml, hown, hts⟩ (kc_taskOf l D ad cI cT cJ X S t ht) (cwV 1 hts gX2_store_X2_taskOf rfl rfl rfl (by decide +kernel) ⟨Nat.le_of_ble_eq_true rfl, Nat.le_of_ble_eq_true rfl⟩) (fk_rvK hK hP) hK hP hD hS hA rfl hl.1 rfl (Nat.le_of_ble_eq_true rfl) dX2_store_2 ⟨Nat.le_of_ble_eq_true rfl, Nat.le_of_ble_eq_true rfl⟩ (fun H locs hP hD hS => ?_)
  refine W.eq (g2 := F0 m 5 ls [.ref (ad (3 + t))]) rfl ?_
  refine lv_astore (lv' := [(4, .ref (ad (3 + t))), (0, .ref (ad 0)), (1, .int (nI t)), (2, .int av), (3, .int v)]) hx hb dX2_store_5 hl (by decide) rfl (fun ls hl => ?_)
  refine lv_iload_n hx hb dX2_store_7 rfl (lv_at hl 3 rfl) ?_
  exact fk_xcallS (As := [.int av]) (rest := []) ⟨hx, hb, hml, hown, hts⟩ (kx_requireAddress l D ad cI cT cJ X S hst av h) (va_cwS 1 hts gX2_store_X2_requireAddress rfl rfl rfl (by decide +kernel) ⟨Nat.le_of_ble_eq_true rfl, Nat.le_of_ble_eq_true rfl⟩) hK hP hD hS hA hZ rfl hl.1 rfl (Nat.le_of_ble_eq_true rfl) dX2_store_8 ⟨Nat.le_of_ble_eq_true rfl, Nat.le_of_ble_eq_true rfl⟩ (fk_thru hout hlocks hK hD)

set_option maxHeartbeats 4000000 in
set_option maxRecDepth 100000 in
theorem kx_store_3 (l : Launch) (D : va_G) (ad : Nat → Nat) (cI cT cJ : ClassId) (X : va_W) (S : fk_S) (hst : l.stackTraces = false) (t : Nat) (ht : t < 8) (a : Nat) (ha : a < 16) (v : Int32)  (h : ¬ S 1 t = 0) : fk_X l D (fk_ty cI cT cJ) yX2_store wsX2_store rx_pub [.ref (ad 0), .int (nI t), .int (nI a), .int v] (fk_kW ad cI cT S ++ X) "java/lang/IllegalStateException" := by
  refine fk_X_of (cc := cX2_store) (maxL := 6) (ret := (some .int)) (own := RX2) (by decide) rfl rfl (Nat.le_of_ble_eq_true rfl) ?_
  intro p e s m below meth c A ls hx hb hout hlocks hml hts hown hA hP hK hD hZ hl
  have hS : va_S A s.heap s.heap [] := va_S.rf
  have hl : lv_has ls 6 [(0, .ref (ad 0)), (1, .int (nI t)), (2, .int (nI a)), (3, .int v)] := hl
  refine lv_aload_n hx hb dX2_store_0 rfl (lv_at hl 0 rfl) ?_
  refine lv_iload_n hx hb dX2_store_1 rfl (lv_at hl 1 rfl) ?_
  refine fk_callV (As := [.int (nI t)]) (rest := []) ⟨hx, hb, hml, hown, hts⟩ (kc_taskOf l D ad cI cT cJ X S t ht) (cwV 1 hts gX2_store_X2_taskOf rfl rfl rfl (by decide +kernel) ⟨Nat.le_of_ble_eq_true rfl, Nat.le_of_ble_eq_true rfl⟩) (fk_rvK hK hP) hK hP hD hS hA rfl hl.1 rfl (Nat.le_of_ble_eq_true rfl) dX2_store_2 ⟨Nat.le_of_ble_eq_true rfl, Nat.le_of_ble_eq_true rfl⟩ (fun H locs hP hD hS => ?_)
  refine W.eq (g2 := F0 m 5 ls [.ref (ad (3 + t))]) rfl ?_
  refine lv_astore (lv' := [(4, .ref (ad (3 + t))), (0, .ref (ad 0)), (1, .int (nI t)), (2, .int (nI a)), (3, .int v)]) hx hb dX2_store_5 hl (by decide) rfl (fun ls hl => ?_)
  refine lv_iload_n hx hb dX2_store_7 rfl (lv_at hl 3 rfl) ?_
  refine fk_callS (As := [.int (nI a)]) (rest := []) ⟨hx, hb, hml, hown, hts⟩ (kc_requireAddress l D ad cI cT cJ X S a (by omega)) (va_cwS 1 hts gX2_store_X2_requireAddress rfl rfl rfl (by decide +kernel) ⟨Nat.le_of_ble_eq_true rfl, Nat.le_of_ble_eq_true rfl⟩) hK hP hD hS hA rfl hl.1 rfl (Nat.le_of_ble_eq_true rfl) dX2_store_8 ⟨Nat.le_of_ble_eq_true rfl, Nat.le_of_ble_eq_true rfl⟩ (fun H locs hP hD hS => ?_)
  refine W.eq (g2 := F0 m 11 ls []) rfl ?_
  refine lv_aload hx hb dX2_store_11 (lv_at hl 0 rfl) ?_
  exact fk_xcallS (As := [.ref (ad (3 + t))]) (rest := []) ⟨hx, hb, hml, hown, hts⟩ (kx_requireRunning l D ad cI cT cJ X S hst t ht h) (va_cwS 1 hts gX2_store_X2_requireRunning rfl rfl rfl (by decide +kernel) ⟨Nat.le_of_ble_eq_true rfl, Nat.le_of_ble_eq_true rfl⟩) hK hP hD hS hA hZ rfl hl.1 rfl (Nat.le_of_ble_eq_true rfl) dX2_store_13 ⟨Nat.le_of_ble_eq_true rfl, Nat.le_of_ble_eq_true rfl⟩ (fk_thru hout hlocks hK hD)

abbrev rmX2_store : Room := { frames := 2, cells := 0, slots := 0, locals := 40 }
set_option maxHeartbeats 4000000 in
set_option maxRecDepth 100000 in
theorem kc_store (l : Launch) (D : va_G) (ad : Nat → Nat) (cI cT cJ : ClassId) (X : va_W) (S : fk_S) (t : Nat) (ht : t < 8) (a : Nat) (ha : a < 16) (v : Int32) (hr0 : S 1 t = 0)  : fk_C l D (fk_ty cI cT cJ) yX2_store wsX2_store rmX2_store [.ref (ad 0), .int (nI t), .int (nI a), .int v] (fk_kW ad cI cT S ++ X) (some (.int (S 0 a))) (fk_kW ad cI cT (fk_up S 0 a v) ++ X) := by
  refine fk_C_of (cc := cX2_store) (maxL := 6) (ret := (some .int)) (own := RX2) (by decide) rfl rfl (Nat.le_of_ble_eq_true rfl) ?_
  intro p e s m below meth c A ls hx hb hr hlocks hml hts hown hA hP hK hD hl
  have hS : va_S A s.heap s.heap [] := va_S.rf
  have hl : lv_has ls 6 [(0, .ref (ad 0)), (1, .int (nI t)), (2, .int (nI a)), (3, .int v)] := hl
  have hiX2 : ∀ w ∈ u_ws RX2 TX2 6, w ∈ wsX2_store := by decide +kernel
  refine lv_aload_n hx hb dX2_store_0 rfl (lv_at hl 0 rfl) ?_
  refine lv_iload_n hx hb dX2_store_1 rfl (lv_at hl 1 rfl) ?_
  refine fk_callV (As := [.int (nI t)]) (rest := []) ⟨hx, hb, hml, hown, hts⟩ (kc_taskOf l D ad cI cT cJ X S t ht) (cwV 1 hts gX2_store_X2_taskOf rfl rfl rfl (by decide +kernel) ⟨Nat.le_of_ble_eq_true rfl, Nat.le_of_ble_eq_true rfl⟩) (fk_rvK hK hP) hK hP hD hS hA rfl hl.1 rfl (Nat.le_of_ble_eq_true rfl) dX2_store_2 ⟨Nat.le_of_ble_eq_true rfl, Nat.le_of_ble_eq_true rfl⟩ (fun H locs hP hD hS => ?_)
  refine W.eq (g2 := F0 m 5 ls [.ref (ad (3 + t))]) rfl ?_
  refine lv_astore (lv' := [(4, .ref (ad (3 + t))), (0, .ref (ad 0)), (1, .int (nI t)), (2, .int (nI a)), (3, .int v)]) hx hb dX2_store_5 hl (by decide) rfl (fun ls hl => ?_)
  refine lv_iload_n hx hb dX2_store_7 rfl (lv_at hl 3 rfl) ?_
  refine fk_callS (As := [.int (nI a)]) (rest := []) ⟨hx, hb, hml, hown, hts⟩ (kc_requireAddress l D ad cI cT cJ X S a (by omega)) (va_cwS 1 hts gX2_store_X2_requireAddress rfl rfl rfl (by decide +kernel) ⟨Nat.le_of_ble_eq_true rfl, Nat.le_of_ble_eq_true rfl⟩) hK hP hD hS hA rfl hl.1 rfl (Nat.le_of_ble_eq_true rfl) dX2_store_8 ⟨Nat.le_of_ble_eq_true rfl, Nat.le_of_ble_eq_true rfl⟩ (fun H locs hP hD hS => ?_)
  refine W.eq (g2 := F0 m 11 ls []) rfl ?_
  refine lv_aload hx hb dX2_store_11 (lv_at hl 0 rfl) ?_
  refine fk_callS (As := [.ref (ad (3 + t))]) (rest := []) ⟨hx, hb, hml, hown, hts⟩ (kc_requireRunning l D ad cI cT cJ X S t ht hr0) (va_cwS 1 hts gX2_store_X2_requireRunning rfl rfl rfl (by decide +kernel) ⟨Nat.le_of_ble_eq_true rfl, Nat.le_of_ble_eq_true rfl⟩) hK hP hD hS hA rfl hl.1 rfl (Nat.le_of_ble_eq_true rfl) dX2_store_13 ⟨Nat.le_of_ble_eq_true rfl, Nat.le_of_ble_eq_true rfl⟩ (fun H locs hP hD hS => ?_)
  refine W.eq (g2 := F0 m 16 ls []) rfl ?_
  refine lv_aload_n hx hb dX2_store_16 rfl (lv_at hl 1 rfl) ?_
  refine fk_getK hx hb hts hiX2 hown hK hP 0 (by decide) (v := .ref (ad 1)) rfl (List.mem_of_getElem? (i := 1) rfl) rfl dX2_store_17 ?_
  refine lv_iload_n hx hb dX2_store_20 rfl (lv_at hl 3 rfl) ?_
  refine fk_ldW hx hb hK hP (vp_in_nI (show a < 16 from (by omega)) (by decide)) dX2_store_21 ?_
  refine W.eq (g2 := F0 m 22 ls [.int (S 0 a)]) (by rw [nI_clamp (by omega)]) ?_
  refine lv_istore (lv' := [(5, .int (S 0 a)), (4, .ref (ad (3 + t))), (0, .ref (ad 0)), (1, .int (nI t)), (2, .int (nI a)), (3, .int v)]) hx hb dX2_store_22 hl (by decide) rfl (fun ls hl => ?_)
  refine lv_aload_n hx hb dX2_store_24 rfl (lv_at hl 2 rfl) ?_
  refine fk_getK hx hb hts hiX2 hown hK hP 0 (by decide) (v := .ref (ad 1)) rfl (List.mem_of_getElem? (i := 1) rfl) rfl dX2_store_25 ?_
  refine lv_iload_n hx hb dX2_store_28 rfl (lv_at hl 4 rfl) ?_
  refine lv_iload_n hx hb dX2_store_29 rfl (lv_at hl 5 rfl) ?_
  refine fk_stW hx hb hK hP hD hS (vp_in_nI (show a < 16 from (by omega)) (by decide)) dX2_store_30 (fun H locs hP hD hS => ?_)
  rw [show ((nI a)).toNatClampNeg = a from nI_clamp (n := a) (by omega)] at hP hD
  refine lv_iload hx hb dX2_store_31 (lv_at hl 0 rfl) ?_
  exact fk_iret hx hb hr hlocks hP hK hD hS (congrArg (fun z => fk_kW ad cI cT z ++ X) (by first | rfl | simp [])) (by rfl) dX2_store_33

set_option maxHeartbeats 4000000 in
set_option maxRecDepth 100000 in
theorem kx_compareAndSet_1 (l : Launch) (D : va_G) (ad : Nat → Nat) (cI cT cJ : ClassId) (X : va_W) (S : fk_S) (hst : l.stackTraces = false) (th av : Int32) (x v : Int32) (h : fk_isT th = false) : fk_X l D (fk_ty cI cT cJ) yX2_compareAndSet wsX2_compareAndSet rx_pub [.ref (ad 0), .int th, .int av, .int x, .int v] (fk_kW ad cI cT S ++ X) "java/lang/IndexOutOfBoundsException" := by
  refine fk_X_of (cc := cX2_compareAndSet) (maxL := 6) (ret := (some .boolean)) (own := RX2) (by decide) rfl rfl (Nat.le_of_ble_eq_true rfl) ?_
  intro p e s m below meth c A ls hx hb hout hlocks hml hts hown hA hP hK hD hZ hl
  have hS : va_S A s.heap s.heap [] := va_S.rf
  have hl : lv_has ls 6 [(0, .ref (ad 0)), (1, .int th), (2, .int av), (3, .int x), (4, .int v)] := hl
  refine lv_aload_n hx hb dX2_compareAndSet_0 rfl (lv_at hl 0 rfl) ?_
  refine lv_iload_n hx hb dX2_compareAndSet_1 rfl (lv_at hl 1 rfl) ?_
  exact fk_xcallV (As := [.int th]) (rest := []) ⟨hx, hb, hml, hown, hts⟩ (kx_taskOf l D ad cI cT cJ X S hst th h) (cwV 1 hts gX2_compareAndSet_X2_taskOf rfl rfl rfl (by decide +kernel) ⟨Nat.le_of_ble_eq_true rfl, Nat.le_of_ble_eq_true rfl⟩) (fk_rvK hK hP) hK hP hD hS hA hZ rfl hl.1 rfl (Nat.le_of_ble_eq_true rfl) dX2_compareAndSet_2 ⟨Nat.le_of_ble_eq_true rfl, Nat.le_of_ble_eq_true rfl⟩ (fk_thru hout hlocks hK hD)

set_option maxHeartbeats 4000000 in
set_option maxRecDepth 100000 in
theorem kx_compareAndSet_2 (l : Launch) (D : va_G) (ad : Nat → Nat) (cI cT cJ : ClassId) (X : va_W) (S : fk_S) (hst : l.stackTraces = false) (t : Nat) (ht : t < 8) (av : Int32) (x v : Int32) (h : fk_isA av = false) : fk_X l D (fk_ty cI cT cJ) yX2_compareAndSet wsX2_compareAndSet rx_pub [.ref (ad 0), .int (nI t), .int av, .int x, .int v] (fk_kW ad cI cT S ++ X) "java/lang/IndexOutOfBoundsException" := by
  refine fk_X_of (cc := cX2_compareAndSet) (maxL := 6) (ret := (some .boolean)) (own := RX2) (by decide) rfl rfl (Nat.le_of_ble_eq_true rfl) ?_
  intro p e s m below meth c A ls hx hb hout hlocks hml hts hown hA hP hK hD hZ hl
  have hS : va_S A s.heap s.heap [] := va_S.rf
  have hl : lv_has ls 6 [(0, .ref (ad 0)), (1, .int (nI t)), (2, .int av), (3, .int x), (4, .int v)] := hl
  refine lv_aload_n hx hb dX2_compareAndSet_0 rfl (lv_at hl 0 rfl) ?_
  refine lv_iload_n hx hb dX2_compareAndSet_1 rfl (lv_at hl 1 rfl) ?_
  refine fk_callV (As := [.int (nI t)]) (rest := []) ⟨hx, hb, hml, hown, hts⟩ (kc_taskOf l D ad cI cT cJ X S t ht) (cwV 1 hts gX2_compareAndSet_X2_taskOf rfl rfl rfl (by decide +kernel) ⟨Nat.le_of_ble_eq_true rfl, Nat.le_of_ble_eq_true rfl⟩) (fk_rvK hK hP) hK hP hD hS hA rfl hl.1 rfl (Nat.le_of_ble_eq_true rfl) dX2_compareAndSet_2 ⟨Nat.le_of_ble_eq_true rfl, Nat.le_of_ble_eq_true rfl⟩ (fun H locs hP hD hS => ?_)
  refine W.eq (g2 := F0 m 5 ls [.ref (ad (3 + t))]) rfl ?_
  refine lv_astore (lv' := [(5, .ref (ad (3 + t))), (0, .ref (ad 0)), (1, .int (nI t)), (2, .int av), (3, .int x), (4, .int v)]) hx hb dX2_compareAndSet_5 hl (by decide) rfl (fun ls hl => ?_)
  refine lv_iload_n hx hb dX2_compareAndSet_7 rfl (lv_at hl 3 rfl) ?_
  exact fk_xcallS (As := [.int av]) (rest := []) ⟨hx, hb, hml, hown, hts⟩ (kx_requireAddress l D ad cI cT cJ X S hst av h) (va_cwS 1 hts gX2_compareAndSet_X2_requireAddress rfl rfl rfl (by decide +kernel) ⟨Nat.le_of_ble_eq_true rfl, Nat.le_of_ble_eq_true rfl⟩) hK hP hD hS hA hZ rfl hl.1 rfl (Nat.le_of_ble_eq_true rfl) dX2_compareAndSet_8 ⟨Nat.le_of_ble_eq_true rfl, Nat.le_of_ble_eq_true rfl⟩ (fk_thru hout hlocks hK hD)

set_option maxHeartbeats 4000000 in
set_option maxRecDepth 100000 in
theorem kx_compareAndSet_3 (l : Launch) (D : va_G) (ad : Nat → Nat) (cI cT cJ : ClassId) (X : va_W) (S : fk_S) (hst : l.stackTraces = false) (t : Nat) (ht : t < 8) (a : Nat) (ha : a < 16) (x v : Int32)  (h : ¬ S 1 t = 0) : fk_X l D (fk_ty cI cT cJ) yX2_compareAndSet wsX2_compareAndSet rx_pub [.ref (ad 0), .int (nI t), .int (nI a), .int x, .int v] (fk_kW ad cI cT S ++ X) "java/lang/IllegalStateException" := by
  refine fk_X_of (cc := cX2_compareAndSet) (maxL := 6) (ret := (some .boolean)) (own := RX2) (by decide) rfl rfl (Nat.le_of_ble_eq_true rfl) ?_
  intro p e s m below meth c A ls hx hb hout hlocks hml hts hown hA hP hK hD hZ hl
  have hS : va_S A s.heap s.heap [] := va_S.rf
  have hl : lv_has ls 6 [(0, .ref (ad 0)), (1, .int (nI t)), (2, .int (nI a)), (3, .int x), (4, .int v)] := hl
  refine lv_aload_n hx hb dX2_compareAndSet_0 rfl (lv_at hl 0 rfl) ?_
  refine lv_iload_n hx hb dX2_compareAndSet_1 rfl (lv_at hl 1 rfl) ?_
  refine fk_callV (As := [.int (nI t)]) (rest := []) ⟨hx, hb, hml, hown, hts⟩ (kc_taskOf l D ad cI cT cJ X S t ht) (cwV 1 hts gX2_compareAndSet_X2_taskOf rfl rfl rfl (by decide +kernel) ⟨Nat.le_of_ble_eq_true rfl, Nat.le_of_ble_eq_true rfl⟩) (fk_rvK hK hP) hK hP hD hS hA rfl hl.1 rfl (Nat.le_of_ble_eq_true rfl) dX2_compareAndSet_2 ⟨Nat.le_of_ble_eq_true rfl, Nat.le_of_ble_eq_true rfl⟩ (fun H locs hP hD hS => ?_)
  refine W.eq (g2 := F0 m 5 ls [.ref (ad (3 + t))]) rfl ?_
  refine lv_astore (lv' := [(5, .ref (ad (3 + t))), (0, .ref (ad 0)), (1, .int (nI t)), (2, .int (nI a)), (3, .int x), (4, .int v)]) hx hb dX2_compareAndSet_5 hl (by decide) rfl (fun ls hl => ?_)
  refine lv_iload_n hx hb dX2_compareAndSet_7 rfl (lv_at hl 3 rfl) ?_
  refine fk_callS (As := [.int (nI a)]) (rest := []) ⟨hx, hb, hml, hown, hts⟩ (kc_requireAddress l D ad cI cT cJ X S a (by omega)) (va_cwS 1 hts gX2_compareAndSet_X2_requireAddress rfl rfl rfl (by decide +kernel) ⟨Nat.le_of_ble_eq_true rfl, Nat.le_of_ble_eq_true rfl⟩) hK hP hD hS hA rfl hl.1 rfl (Nat.le_of_ble_eq_true rfl) dX2_compareAndSet_8 ⟨Nat.le_of_ble_eq_true rfl, Nat.le_of_ble_eq_true rfl⟩ (fun H locs hP hD hS => ?_)
  refine W.eq (g2 := F0 m 11 ls []) rfl ?_
  refine lv_aload hx hb dX2_compareAndSet_11 (lv_at hl 0 rfl) ?_
  exact fk_xcallS (As := [.ref (ad (3 + t))]) (rest := []) ⟨hx, hb, hml, hown, hts⟩ (kx_requireRunning l D ad cI cT cJ X S hst t ht h) (va_cwS 1 hts gX2_compareAndSet_X2_requireRunning rfl rfl rfl (by decide +kernel) ⟨Nat.le_of_ble_eq_true rfl, Nat.le_of_ble_eq_true rfl⟩) hK hP hD hS hA hZ rfl hl.1 rfl (Nat.le_of_ble_eq_true rfl) dX2_compareAndSet_13 ⟨Nat.le_of_ble_eq_true rfl, Nat.le_of_ble_eq_true rfl⟩ (fk_thru hout hlocks hK hD)

abbrev rmX2_compareAndSet : Room := { frames := 2, cells := 0, slots := 0, locals := 40 }
set_option maxHeartbeats 4000000 in
set_option maxRecDepth 100000 in
theorem kc_compareAndSet (l : Launch) (D : va_G) (ad : Nat → Nat) (cI cT cJ : ClassId) (X : va_W) (S : fk_S) (t : Nat) (ht : t < 8) (a : Nat) (ha : a < 16) (x v : Int32) (hr0 : S 1 t = 0)  : fk_C l D (fk_ty cI cT cJ) yX2_compareAndSet wsX2_compareAndSet rmX2_compareAndSet [.ref (ad 0), .int (nI t), .int (nI a), .int x, .int v] (fk_kW ad cI cT S ++ X) (some (.int (fk_b (decide (S 0 a = x))))) (fk_kW ad cI cT (if S 0 a = x then fk_up S 0 a v else S) ++ X) := by
  refine fk_C_of (cc := cX2_compareAndSet) (maxL := 6) (ret := (some .boolean)) (own := RX2) (by decide) rfl rfl (Nat.le_of_ble_eq_true rfl) ?_
  intro p e s m below meth c A ls hx hb hr hlocks hml hts hown hA hP hK hD hl
  have hS : va_S A s.heap s.heap [] := va_S.rf
  have hl : lv_has ls 6 [(0, .ref (ad 0)), (1, .int (nI t)), (2, .int (nI a)), (3, .int x), (4, .int v)] := hl
  have hiX2 : ∀ w ∈ u_ws RX2 TX2 6, w ∈ wsX2_compareAndSet := by decide +kernel
  refine lv_aload_n hx hb dX2_compareAndSet_0 rfl (lv_at hl 0 rfl) ?_
  refine lv_iload_n hx hb dX2_compareAndSet_1 rfl (lv_at hl 1 rfl) ?_
  refine fk_callV (As := [.int (nI t)]) (rest := []) ⟨hx, hb, hml, hown, hts⟩ (kc_taskOf l D ad cI cT cJ X S t ht) (cwV 1 hts gX2_compareAndSet_X2_taskOf rfl rfl rfl (by decide +kernel) ⟨Nat.le_of_ble_eq_true rfl, Nat.le_of_ble_eq_true rfl⟩) (fk_rvK hK hP) hK hP hD hS hA rfl hl.1 rfl (Nat.le_of_ble_eq_true rfl) dX2_compareAndSet_2 ⟨Nat.le_of_ble_eq_true rfl, Nat.le_of_ble_eq_true rfl⟩ (fun H locs hP hD hS => ?_)
  refine W.eq (g2 := F0 m 5 ls [.ref (ad (3 + t))]) rfl ?_
  refine lv_astore (lv' := [(5, .ref (ad (3 + t))), (0, .ref (ad 0)), (1, .int (nI t)), (2, .int (nI a)), (3, .int x), (4, .int v)]) hx hb dX2_compareAndSet_5 hl (by decide) rfl (fun ls hl => ?_)
  refine lv_iload_n hx hb dX2_compareAndSet_7 rfl (lv_at hl 3 rfl) ?_
  refine fk_callS (As := [.int (nI a)]) (rest := []) ⟨hx, hb, hml, hown, hts⟩ (kc_requireAddress l D ad cI cT cJ X S a (by omega)) (va_cwS 1 hts gX2_compareAndSet_X2_requireAddress rfl rfl rfl (by decide +kernel) ⟨Nat.le_of_ble_eq_true rfl, Nat.le_of_ble_eq_true rfl⟩) hK hP hD hS hA rfl hl.1 rfl (Nat.le_of_ble_eq_true rfl) dX2_compareAndSet_8 ⟨Nat.le_of_ble_eq_true rfl, Nat.le_of_ble_eq_true rfl⟩ (fun H locs hP hD hS => ?_)
  refine W.eq (g2 := F0 m 11 ls []) rfl ?_
  refine lv_aload hx hb dX2_compareAndSet_11 (lv_at hl 0 rfl) ?_
  refine fk_callS (As := [.ref (ad (3 + t))]) (rest := []) ⟨hx, hb, hml, hown, hts⟩ (kc_requireRunning l D ad cI cT cJ X S t ht hr0) (va_cwS 1 hts gX2_compareAndSet_X2_requireRunning rfl rfl rfl (by decide +kernel) ⟨Nat.le_of_ble_eq_true rfl, Nat.le_of_ble_eq_true rfl⟩) hK hP hD hS hA rfl hl.1 rfl (Nat.le_of_ble_eq_true rfl) dX2_compareAndSet_13 ⟨Nat.le_of_ble_eq_true rfl, Nat.le_of_ble_eq_true rfl⟩ (fun H locs hP hD hS => ?_)
  refine W.eq (g2 := F0 m 16 ls []) rfl ?_
  refine lv_aload_n hx hb dX2_compareAndSet_16 rfl (lv_at hl 1 rfl) ?_
  refine fk_getK hx hb hts hiX2 hown hK hP 0 (by decide) (v := .ref (ad 1)) rfl (List.mem_of_getElem? (i := 1) rfl) rfl dX2_compareAndSet_17 ?_
  refine lv_iload_n hx hb dX2_compareAndSet_20 rfl (lv_at hl 3 rfl) ?_
  refine fk_ldW hx hb hK hP (vp_in_nI (show a < 16 from (by omega)) (by decide)) dX2_compareAndSet_21 ?_
  refine W.eq (g2 := F0 m 22 ls [.int (S 0 a)]) (by rw [nI_clamp (by omega)]) ?_
  refine lv_iload_n hx hb dX2_compareAndSet_22 rfl (lv_at hl 4 rfl) ?_
  refine lv_icmp_eq (tgt := 28) hx hb dX2_compareAndSet_23 (by decide) (fun c_1 => ?_) (fun c_1 => ?_)
  · refine lv_aload_n hx hb dX2_compareAndSet_28 rfl (lv_at hl 1 rfl) ?_
    refine fk_getK hx hb hts hiX2 hown hK hP 0 (by decide) (v := .ref (ad 1)) rfl (List.mem_of_getElem? (i := 1) rfl) rfl dX2_compareAndSet_29 ?_
    refine lv_iload_n hx hb dX2_compareAndSet_32 rfl (lv_at hl 3 rfl) ?_
    refine lv_iload hx hb dX2_compareAndSet_33 (lv_at hl 5 rfl) ?_
    refine fk_stW hx hb hK hP hD hS (vp_in_nI (show a < 16 from (by omega)) (by decide)) dX2_compareAndSet_35 (fun H locs hP hD hS => ?_)
    rw [show ((nI a)).toNatClampNeg = a from nI_clamp (n := a) (by omega)] at hP hD
    refine lv_iconst (v := 1) hx hb dX2_compareAndSet_36 (by decide) ?_
    exact fk_zret hx hb hr hlocks hP hK hD hS (congrArg (fun z => fk_kW ad cI cT z ++ X) (by first | rfl | simp [c_1])) rfl (by first | rfl | simp [fk_b, c_1]) dX2_compareAndSet_37
  · refine lv_iconst (v := 0) hx hb dX2_compareAndSet_26 (by decide) ?_
    exact fk_zret hx hb hr hlocks hP hK hD hS (congrArg (fun z => fk_kW ad cI cT z ++ X) (by first | rfl | simp [c_1])) rfl (by first | rfl | simp [fk_b, c_1]) dX2_compareAndSet_27

set_option maxHeartbeats 4000000 in
set_option maxRecDepth 100000 in
theorem kx_fetchAdd_1 (l : Launch) (D : va_G) (ad : Nat → Nat) (cI cT cJ : ClassId) (X : va_W) (S : fk_S) (hst : l.stackTraces = false) (th av : Int32) (v : Int32) (h : fk_isT th = false) : fk_X l D (fk_ty cI cT cJ) yX2_fetchAdd wsX2_fetchAdd rx_pub [.ref (ad 0), .int th, .int av, .int v] (fk_kW ad cI cT S ++ X) "java/lang/IndexOutOfBoundsException" := by
  refine fk_X_of (cc := cX2_fetchAdd) (maxL := 6) (ret := (some .int)) (own := RX2) (by decide) rfl rfl (Nat.le_of_ble_eq_true rfl) ?_
  intro p e s m below meth c A ls hx hb hout hlocks hml hts hown hA hP hK hD hZ hl
  have hS : va_S A s.heap s.heap [] := va_S.rf
  have hl : lv_has ls 6 [(0, .ref (ad 0)), (1, .int th), (2, .int av), (3, .int v)] := hl
  refine lv_aload_n hx hb dX2_fetchAdd_0 rfl (lv_at hl 0 rfl) ?_
  refine lv_iload_n hx hb dX2_fetchAdd_1 rfl (lv_at hl 1 rfl) ?_
  exact fk_xcallV (As := [.int th]) (rest := []) ⟨hx, hb, hml, hown, hts⟩ (kx_taskOf l D ad cI cT cJ X S hst th h) (cwV 1 hts gX2_fetchAdd_X2_taskOf rfl rfl rfl (by decide +kernel) ⟨Nat.le_of_ble_eq_true rfl, Nat.le_of_ble_eq_true rfl⟩) (fk_rvK hK hP) hK hP hD hS hA hZ rfl hl.1 rfl (Nat.le_of_ble_eq_true rfl) dX2_fetchAdd_2 ⟨Nat.le_of_ble_eq_true rfl, Nat.le_of_ble_eq_true rfl⟩ (fk_thru hout hlocks hK hD)

set_option maxHeartbeats 4000000 in
set_option maxRecDepth 100000 in
theorem kx_fetchAdd_2 (l : Launch) (D : va_G) (ad : Nat → Nat) (cI cT cJ : ClassId) (X : va_W) (S : fk_S) (hst : l.stackTraces = false) (t : Nat) (ht : t < 8) (av : Int32) (v : Int32) (h : fk_isA av = false) : fk_X l D (fk_ty cI cT cJ) yX2_fetchAdd wsX2_fetchAdd rx_pub [.ref (ad 0), .int (nI t), .int av, .int v] (fk_kW ad cI cT S ++ X) "java/lang/IndexOutOfBoundsException" := by
  refine fk_X_of (cc := cX2_fetchAdd) (maxL := 6) (ret := (some .int)) (own := RX2) (by decide) rfl rfl (Nat.le_of_ble_eq_true rfl) ?_
  intro p e s m below meth c A ls hx hb hout hlocks hml hts hown hA hP hK hD hZ hl
  have hS : va_S A s.heap s.heap [] := va_S.rf
  have hl : lv_has ls 6 [(0, .ref (ad 0)), (1, .int (nI t)), (2, .int av), (3, .int v)] := hl
  refine lv_aload_n hx hb dX2_fetchAdd_0 rfl (lv_at hl 0 rfl) ?_
  refine lv_iload_n hx hb dX2_fetchAdd_1 rfl (lv_at hl 1 rfl) ?_
  refine fk_callV (As := [.int (nI t)]) (rest := []) ⟨hx, hb, hml, hown, hts⟩ (kc_taskOf l D ad cI cT cJ X S t ht) (cwV 1 hts gX2_fetchAdd_X2_taskOf rfl rfl rfl (by decide +kernel) ⟨Nat.le_of_ble_eq_true rfl, Nat.le_of_ble_eq_true rfl⟩) (fk_rvK hK hP) hK hP hD hS hA rfl hl.1 rfl (Nat.le_of_ble_eq_true rfl) dX2_fetchAdd_2 ⟨Nat.le_of_ble_eq_true rfl, Nat.le_of_ble_eq_true rfl⟩ (fun H locs hP hD hS => ?_)
  refine W.eq (g2 := F0 m 5 ls [.ref (ad (3 + t))]) rfl ?_
  refine lv_astore (lv' := [(4, .ref (ad (3 + t))), (0, .ref (ad 0)), (1, .int (nI t)), (2, .int av), (3, .int v)]) hx hb dX2_fetchAdd_5 hl (by decide) rfl (fun ls hl => ?_)
  refine lv_iload_n hx hb dX2_fetchAdd_7 rfl (lv_at hl 3 rfl) ?_
  exact fk_xcallS (As := [.int av]) (rest := []) ⟨hx, hb, hml, hown, hts⟩ (kx_requireAddress l D ad cI cT cJ X S hst av h) (va_cwS 1 hts gX2_fetchAdd_X2_requireAddress rfl rfl rfl (by decide +kernel) ⟨Nat.le_of_ble_eq_true rfl, Nat.le_of_ble_eq_true rfl⟩) hK hP hD hS hA hZ rfl hl.1 rfl (Nat.le_of_ble_eq_true rfl) dX2_fetchAdd_8 ⟨Nat.le_of_ble_eq_true rfl, Nat.le_of_ble_eq_true rfl⟩ (fk_thru hout hlocks hK hD)

set_option maxHeartbeats 4000000 in
set_option maxRecDepth 100000 in
theorem kx_fetchAdd_3 (l : Launch) (D : va_G) (ad : Nat → Nat) (cI cT cJ : ClassId) (X : va_W) (S : fk_S) (hst : l.stackTraces = false) (t : Nat) (ht : t < 8) (a : Nat) (ha : a < 16) (v : Int32)  (h : ¬ S 1 t = 0) : fk_X l D (fk_ty cI cT cJ) yX2_fetchAdd wsX2_fetchAdd rx_pub [.ref (ad 0), .int (nI t), .int (nI a), .int v] (fk_kW ad cI cT S ++ X) "java/lang/IllegalStateException" := by
  refine fk_X_of (cc := cX2_fetchAdd) (maxL := 6) (ret := (some .int)) (own := RX2) (by decide) rfl rfl (Nat.le_of_ble_eq_true rfl) ?_
  intro p e s m below meth c A ls hx hb hout hlocks hml hts hown hA hP hK hD hZ hl
  have hS : va_S A s.heap s.heap [] := va_S.rf
  have hl : lv_has ls 6 [(0, .ref (ad 0)), (1, .int (nI t)), (2, .int (nI a)), (3, .int v)] := hl
  refine lv_aload_n hx hb dX2_fetchAdd_0 rfl (lv_at hl 0 rfl) ?_
  refine lv_iload_n hx hb dX2_fetchAdd_1 rfl (lv_at hl 1 rfl) ?_
  refine fk_callV (As := [.int (nI t)]) (rest := []) ⟨hx, hb, hml, hown, hts⟩ (kc_taskOf l D ad cI cT cJ X S t ht) (cwV 1 hts gX2_fetchAdd_X2_taskOf rfl rfl rfl (by decide +kernel) ⟨Nat.le_of_ble_eq_true rfl, Nat.le_of_ble_eq_true rfl⟩) (fk_rvK hK hP) hK hP hD hS hA rfl hl.1 rfl (Nat.le_of_ble_eq_true rfl) dX2_fetchAdd_2 ⟨Nat.le_of_ble_eq_true rfl, Nat.le_of_ble_eq_true rfl⟩ (fun H locs hP hD hS => ?_)
  refine W.eq (g2 := F0 m 5 ls [.ref (ad (3 + t))]) rfl ?_
  refine lv_astore (lv' := [(4, .ref (ad (3 + t))), (0, .ref (ad 0)), (1, .int (nI t)), (2, .int (nI a)), (3, .int v)]) hx hb dX2_fetchAdd_5 hl (by decide) rfl (fun ls hl => ?_)
  refine lv_iload_n hx hb dX2_fetchAdd_7 rfl (lv_at hl 3 rfl) ?_
  refine fk_callS (As := [.int (nI a)]) (rest := []) ⟨hx, hb, hml, hown, hts⟩ (kc_requireAddress l D ad cI cT cJ X S a (by omega)) (va_cwS 1 hts gX2_fetchAdd_X2_requireAddress rfl rfl rfl (by decide +kernel) ⟨Nat.le_of_ble_eq_true rfl, Nat.le_of_ble_eq_true rfl⟩) hK hP hD hS hA rfl hl.1 rfl (Nat.le_of_ble_eq_true rfl) dX2_fetchAdd_8 ⟨Nat.le_of_ble_eq_true rfl, Nat.le_of_ble_eq_true rfl⟩ (fun H locs hP hD hS => ?_)
  refine W.eq (g2 := F0 m 11 ls []) rfl ?_
  refine lv_aload hx hb dX2_fetchAdd_11 (lv_at hl 0 rfl) ?_
  exact fk_xcallS (As := [.ref (ad (3 + t))]) (rest := []) ⟨hx, hb, hml, hown, hts⟩ (kx_requireRunning l D ad cI cT cJ X S hst t ht h) (va_cwS 1 hts gX2_fetchAdd_X2_requireRunning rfl rfl rfl (by decide +kernel) ⟨Nat.le_of_ble_eq_true rfl, Nat.le_of_ble_eq_true rfl⟩) hK hP hD hS hA hZ rfl hl.1 rfl (Nat.le_of_ble_eq_true rfl) dX2_fetchAdd_13 ⟨Nat.le_of_ble_eq_true rfl, Nat.le_of_ble_eq_true rfl⟩ (fk_thru hout hlocks hK hD)

abbrev rmX2_fetchAdd : Room := { frames := 2, cells := 0, slots := 0, locals := 40 }
set_option maxHeartbeats 4000000 in
set_option maxRecDepth 100000 in
theorem kc_fetchAdd (l : Launch) (D : va_G) (ad : Nat → Nat) (cI cT cJ : ClassId) (X : va_W) (S : fk_S) (t : Nat) (ht : t < 8) (a : Nat) (ha : a < 16) (v : Int32) (hr0 : S 1 t = 0)  : fk_C l D (fk_ty cI cT cJ) yX2_fetchAdd wsX2_fetchAdd rmX2_fetchAdd [.ref (ad 0), .int (nI t), .int (nI a), .int v] (fk_kW ad cI cT S ++ X) (some (.int (S 0 a))) (fk_kW ad cI cT (fk_up S 0 a (S 0 a + v)) ++ X) := by
  refine fk_C_of (cc := cX2_fetchAdd) (maxL := 6) (ret := (some .int)) (own := RX2) (by decide) rfl rfl (Nat.le_of_ble_eq_true rfl) ?_
  intro p e s m below meth c A ls hx hb hr hlocks hml hts hown hA hP hK hD hl
  have hS : va_S A s.heap s.heap [] := va_S.rf
  have hl : lv_has ls 6 [(0, .ref (ad 0)), (1, .int (nI t)), (2, .int (nI a)), (3, .int v)] := hl
  have hiX2 : ∀ w ∈ u_ws RX2 TX2 6, w ∈ wsX2_fetchAdd := by decide +kernel
  refine lv_aload_n hx hb dX2_fetchAdd_0 rfl (lv_at hl 0 rfl) ?_
  refine lv_iload_n hx hb dX2_fetchAdd_1 rfl (lv_at hl 1 rfl) ?_
  refine fk_callV (As := [.int (nI t)]) (rest := []) ⟨hx, hb, hml, hown, hts⟩ (kc_taskOf l D ad cI cT cJ X S t ht) (cwV 1 hts gX2_fetchAdd_X2_taskOf rfl rfl rfl (by decide +kernel) ⟨Nat.le_of_ble_eq_true rfl, Nat.le_of_ble_eq_true rfl⟩) (fk_rvK hK hP) hK hP hD hS hA rfl hl.1 rfl (Nat.le_of_ble_eq_true rfl) dX2_fetchAdd_2 ⟨Nat.le_of_ble_eq_true rfl, Nat.le_of_ble_eq_true rfl⟩ (fun H locs hP hD hS => ?_)
  refine W.eq (g2 := F0 m 5 ls [.ref (ad (3 + t))]) rfl ?_
  refine lv_astore (lv' := [(4, .ref (ad (3 + t))), (0, .ref (ad 0)), (1, .int (nI t)), (2, .int (nI a)), (3, .int v)]) hx hb dX2_fetchAdd_5 hl (by decide) rfl (fun ls hl => ?_)
  refine lv_iload_n hx hb dX2_fetchAdd_7 rfl (lv_at hl 3 rfl) ?_
  refine fk_callS (As := [.int (nI a)]) (rest := []) ⟨hx, hb, hml, hown, hts⟩ (kc_requireAddress l D ad cI cT cJ X S a (by omega)) (va_cwS 1 hts gX2_fetchAdd_X2_requireAddress rfl rfl rfl (by decide +kernel) ⟨Nat.le_of_ble_eq_true rfl, Nat.le_of_ble_eq_true rfl⟩) hK hP hD hS hA rfl hl.1 rfl (Nat.le_of_ble_eq_true rfl) dX2_fetchAdd_8 ⟨Nat.le_of_ble_eq_true rfl, Nat.le_of_ble_eq_true rfl⟩ (fun H locs hP hD hS => ?_)
  refine W.eq (g2 := F0 m 11 ls []) rfl ?_
  refine lv_aload hx hb dX2_fetchAdd_11 (lv_at hl 0 rfl) ?_
  refine fk_callS (As := [.ref (ad (3 + t))]) (rest := []) ⟨hx, hb, hml, hown, hts⟩ (kc_requireRunning l D ad cI cT cJ X S t ht hr0) (va_cwS 1 hts gX2_fetchAdd_X2_requireRunning rfl rfl rfl (by decide +kernel) ⟨Nat.le_of_ble_eq_true rfl, Nat.le_of_ble_eq_true rfl⟩) hK hP hD hS hA rfl hl.1 rfl (Nat.le_of_ble_eq_true rfl) dX2_fetchAdd_13 ⟨Nat.le_of_ble_eq_true rfl, Nat.le_of_ble_eq_true rfl⟩ (fun H locs hP hD hS => ?_)
  refine W.eq (g2 := F0 m 16 ls []) rfl ?_
  refine lv_aload_n hx hb dX2_fetchAdd_16 rfl (lv_at hl 1 rfl) ?_
  refine fk_getK hx hb hts hiX2 hown hK hP 0 (by decide) (v := .ref (ad 1)) rfl (List.mem_of_getElem? (i := 1) rfl) rfl dX2_fetchAdd_17 ?_
  refine lv_iload_n hx hb dX2_fetchAdd_20 rfl (lv_at hl 3 rfl) ?_
  refine fk_ldW hx hb hK hP (vp_in_nI (show a < 16 from (by omega)) (by decide)) dX2_fetchAdd_21 ?_
  refine W.eq (g2 := F0 m 22 ls [.int (S 0 a)]) (by rw [nI_clamp (by omega)]) ?_
  refine lv_istore (lv' := [(5, .int (S 0 a)), (4, .ref (ad (3 + t))), (0, .ref (ad 0)), (1, .int (nI t)), (2, .int (nI a)), (3, .int v)]) hx hb dX2_fetchAdd_22 hl (by decide) rfl (fun ls hl => ?_)
  refine lv_aload_n hx hb dX2_fetchAdd_24 rfl (lv_at hl 2 rfl) ?_
  refine fk_getK hx hb hts hiX2 hown hK hP 0 (by decide) (v := .ref (ad 1)) rfl (List.mem_of_getElem? (i := 1) rfl) rfl dX2_fetchAdd_25 ?_
  refine lv_iload_n hx hb dX2_fetchAdd_28 rfl (lv_at hl 4 rfl) ?_
  refine lv_iload hx hb dX2_fetchAdd_29 (lv_at hl 0 rfl) ?_
  refine lv_iload_n hx hb dX2_fetchAdd_31 rfl (lv_at hl 5 rfl) ?_
  refine lv_iadd hx hb dX2_fetchAdd_32 ?_
  refine fk_stW hx hb hK hP hD hS (vp_in_nI (show a < 16 from (by omega)) (by decide)) dX2_fetchAdd_33 (fun H locs hP hD hS => ?_)
  rw [show ((nI a)).toNatClampNeg = a from nI_clamp (n := a) (by omega)] at hP hD
  refine lv_iload hx hb dX2_fetchAdd_34 (lv_at hl 0 rfl) ?_
  exact fk_iret hx hb hr hlocks hP hK hD hS (congrArg (fun z => fk_kW ad cI cT z ++ X) (by first | rfl | simp [])) (by rfl) dX2_fetchAdd_36

set_option maxHeartbeats 4000000 in
set_option maxRecDepth 100000 in
theorem kx_word_1 (l : Launch) (D : va_G) (ad : Nat → Nat) (cI cT cJ : ClassId) (X : va_W) (S : fk_S) (hst : l.stackTraces = false) (av : Int32) (h : fk_isA av = false) : fk_X l D (fk_ty cI cT cJ) yX2_word wsX2_word rx_pub [.ref (ad 0), .int av] (fk_kW ad cI cT S ++ X) "java/lang/IndexOutOfBoundsException" := by
  refine fk_X_of (cc := cX2_word) (maxL := 2) (ret := (some .int)) (own := RX2) (by decide) rfl rfl (Nat.le_of_ble_eq_true rfl) ?_
  intro p e s m below meth c A ls hx hb hout hlocks hml hts hown hA hP hK hD hZ hl
  have hS : va_S A s.heap s.heap [] := va_S.rf
  have hl : lv_has ls 2 [(0, .ref (ad 0)), (1, .int av)] := hl
  refine lv_iload_n hx hb dX2_word_0 rfl (lv_at hl 1 rfl) ?_
  exact fk_xcallS (As := [.int av]) (rest := []) ⟨hx, hb, hml, hown, hts⟩ (kx_requireAddress l D ad cI cT cJ X S hst av h) (va_cwS 1 hts gX2_word_X2_requireAddress rfl rfl rfl (by decide +kernel) ⟨Nat.le_of_ble_eq_true rfl, Nat.le_of_ble_eq_true rfl⟩) hK hP hD hS hA hZ rfl hl.1 rfl (Nat.le_of_ble_eq_true rfl) dX2_word_1 ⟨Nat.le_of_ble_eq_true rfl, Nat.le_of_ble_eq_true rfl⟩ (fk_thru hout hlocks hK hD)

abbrev rmX2_word : Room := { frames := 2, cells := 0, slots := 0, locals := 40 }
set_option maxHeartbeats 4000000 in
set_option maxRecDepth 100000 in
theorem kc_word (l : Launch) (D : va_G) (ad : Nat → Nat) (cI cT cJ : ClassId) (X : va_W) (S : fk_S) (a : Nat) (ha : a < 16) : fk_C l D (fk_ty cI cT cJ) yX2_word wsX2_word rmX2_word [.ref (ad 0), .int (nI a)] (fk_kW ad cI cT S ++ X) (some (.int (S 0 a))) (fk_kW ad cI cT S ++ X) := by
  refine fk_C_of (cc := cX2_word) (maxL := 2) (ret := (some .int)) (own := RX2) (by decide) rfl rfl (Nat.le_of_ble_eq_true rfl) ?_
  intro p e s m below meth c A ls hx hb hr hlocks hml hts hown hA hP hK hD hl
  have hS : va_S A s.heap s.heap [] := va_S.rf
  have hl : lv_has ls 2 [(0, .ref (ad 0)), (1, .int (nI a))] := hl
  have hiX2 : ∀ w ∈ u_ws RX2 TX2 6, w ∈ wsX2_word := by decide +kernel
  refine lv_iload_n hx hb dX2_word_0 rfl (lv_at hl 1 rfl) ?_
  refine fk_callS (As := [.int (nI a)]) (rest := []) ⟨hx, hb, hml, hown, hts⟩ (kc_requireAddress l D ad cI cT cJ X S a (by omega)) (va_cwS 1 hts gX2_word_X2_requireAddress rfl rfl rfl (by decide +kernel) ⟨Nat.le_of_ble_eq_true rfl, Nat.le_of_ble_eq_true rfl⟩) hK hP hD hS hA rfl hl.1 rfl (Nat.le_of_ble_eq_true rfl) dX2_word_1 ⟨Nat.le_of_ble_eq_true rfl, Nat.le_of_ble_eq_true rfl⟩ (fun H locs hP hD hS => ?_)
  refine W.eq (g2 := F0 m 4 ls []) rfl ?_
  refine lv_aload_n hx hb dX2_word_4 rfl (lv_at hl 0 rfl) ?_
  refine fk_getK hx hb hts hiX2 hown hK hP 0 (by decide) (v := .ref (ad 1)) rfl (List.mem_of_getElem? (i := 1) rfl) rfl dX2_word_5 ?_
  refine lv_iload_n hx hb dX2_word_8 rfl (lv_at hl 1 rfl) ?_
  refine fk_ldW hx hb hK hP (vp_in_nI (show a < 16 from (by omega)) (by decide)) dX2_word_9 ?_
  refine W.eq (g2 := F0 m 10 ls [.int (S 0 a)]) (by rw [nI_clamp (by omega)]) ?_
  exact fk_iret hx hb hr hlocks hP hK hD hS (congrArg (fun z => fk_kW ad cI cT z ++ X) (by first | rfl | simp [])) (by rfl) dX2_word_10

set_option maxHeartbeats 4000000 in
set_option maxRecDepth 100000 in
theorem kx_await_1 (l : Launch) (D : va_G) (ad : Nat → Nat) (cI cT cJ : ClassId) (X : va_W) (S : fk_S) (hst : l.stackTraces = false) (th av : Int32) (x mk to : Int32) (h : fk_isT th = false) : fk_X l D (fk_ty cI cT cJ) yX2_await wsX2_await rx_pub [.ref (ad 0), .int th, .int av, .int x, .int mk, .int to] (fk_kW ad cI cT S ++ X) "java/lang/IndexOutOfBoundsException" := by
  refine fk_X_of (cc := cX2_await) (maxL := 7) (ret := (some .boolean)) (own := RX2) (by decide) rfl rfl (Nat.le_of_ble_eq_true rfl) ?_
  intro p e s m below meth c A ls hx hb hout hlocks hml hts hown hA hP hK hD hZ hl
  have hS : va_S A s.heap s.heap [] := va_S.rf
  have hl : lv_has ls 7 [(0, .ref (ad 0)), (1, .int th), (2, .int av), (3, .int x), (4, .int mk), (5, .int to)] := hl
  refine lv_aload_n hx hb dX2_await_0 rfl (lv_at hl 0 rfl) ?_
  refine lv_iload_n hx hb dX2_await_1 rfl (lv_at hl 1 rfl) ?_
  exact fk_xcallV (As := [.int th]) (rest := []) ⟨hx, hb, hml, hown, hts⟩ (kx_taskOf l D ad cI cT cJ X S hst th h) (cwV 1 hts gX2_await_X2_taskOf rfl rfl rfl (by decide +kernel) ⟨Nat.le_of_ble_eq_true rfl, Nat.le_of_ble_eq_true rfl⟩) (fk_rvK hK hP) hK hP hD hS hA hZ rfl hl.1 rfl (Nat.le_of_ble_eq_true rfl) dX2_await_2 ⟨Nat.le_of_ble_eq_true rfl, Nat.le_of_ble_eq_true rfl⟩ (fk_thru hout hlocks hK hD)

set_option maxHeartbeats 4000000 in
set_option maxRecDepth 100000 in
theorem kx_await_2 (l : Launch) (D : va_G) (ad : Nat → Nat) (cI cT cJ : ClassId) (X : va_W) (S : fk_S) (hst : l.stackTraces = false) (t : Nat) (ht : t < 8) (av : Int32) (x mk to : Int32) (h : fk_isA av = false) : fk_X l D (fk_ty cI cT cJ) yX2_await wsX2_await rx_pub [.ref (ad 0), .int (nI t), .int av, .int x, .int mk, .int to] (fk_kW ad cI cT S ++ X) "java/lang/IndexOutOfBoundsException" := by
  refine fk_X_of (cc := cX2_await) (maxL := 7) (ret := (some .boolean)) (own := RX2) (by decide) rfl rfl (Nat.le_of_ble_eq_true rfl) ?_
  intro p e s m below meth c A ls hx hb hout hlocks hml hts hown hA hP hK hD hZ hl
  have hS : va_S A s.heap s.heap [] := va_S.rf
  have hl : lv_has ls 7 [(0, .ref (ad 0)), (1, .int (nI t)), (2, .int av), (3, .int x), (4, .int mk), (5, .int to)] := hl
  refine lv_aload_n hx hb dX2_await_0 rfl (lv_at hl 0 rfl) ?_
  refine lv_iload_n hx hb dX2_await_1 rfl (lv_at hl 1 rfl) ?_
  refine fk_callV (As := [.int (nI t)]) (rest := []) ⟨hx, hb, hml, hown, hts⟩ (kc_taskOf l D ad cI cT cJ X S t ht) (cwV 1 hts gX2_await_X2_taskOf rfl rfl rfl (by decide +kernel) ⟨Nat.le_of_ble_eq_true rfl, Nat.le_of_ble_eq_true rfl⟩) (fk_rvK hK hP) hK hP hD hS hA rfl hl.1 rfl (Nat.le_of_ble_eq_true rfl) dX2_await_2 ⟨Nat.le_of_ble_eq_true rfl, Nat.le_of_ble_eq_true rfl⟩ (fun H locs hP hD hS => ?_)
  refine W.eq (g2 := F0 m 5 ls [.ref (ad (3 + t))]) rfl ?_
  refine lv_astore (lv' := [(6, .ref (ad (3 + t))), (0, .ref (ad 0)), (1, .int (nI t)), (2, .int av), (3, .int x), (4, .int mk), (5, .int to)]) hx hb dX2_await_5 hl (by decide) rfl (fun ls hl => ?_)
  refine lv_iload_n hx hb dX2_await_7 rfl (lv_at hl 3 rfl) ?_
  exact fk_xcallS (As := [.int av]) (rest := []) ⟨hx, hb, hml, hown, hts⟩ (kx_requireAddress l D ad cI cT cJ X S hst av h) (va_cwS 1 hts gX2_await_X2_requireAddress rfl rfl rfl (by decide +kernel) ⟨Nat.le_of_ble_eq_true rfl, Nat.le_of_ble_eq_true rfl⟩) hK hP hD hS hA hZ rfl hl.1 rfl (Nat.le_of_ble_eq_true rfl) dX2_await_8 ⟨Nat.le_of_ble_eq_true rfl, Nat.le_of_ble_eq_true rfl⟩ (fk_thru hout hlocks hK hD)

set_option maxHeartbeats 4000000 in
set_option maxRecDepth 100000 in
theorem kx_await_3 (l : Launch) (D : va_G) (ad : Nat → Nat) (cI cT cJ : ClassId) (X : va_W) (S : fk_S) (hst : l.stackTraces = false) (t : Nat) (ht : t < 8) (a : Nat) (ha : a < 16) (x mk to : Int32)  (h : fk_btw mk 1 255 = false) : fk_X l D (fk_ty cI cT cJ) yX2_await wsX2_await rx_pub [.ref (ad 0), .int (nI t), .int (nI a), .int x, .int mk, .int to] (fk_kW ad cI cT S ++ X) "java/lang/IllegalArgumentException" := by
  refine fk_X_of (cc := cX2_await) (maxL := 7) (ret := (some .boolean)) (own := RX2) (by decide) rfl rfl (Nat.le_of_ble_eq_true rfl) ?_
  intro p e s m below meth c A ls hx hb hout hlocks hml hts hown hA hP hK hD hZ hl
  have hS : va_S A s.heap s.heap [] := va_S.rf
  have hl : lv_has ls 7 [(0, .ref (ad 0)), (1, .int (nI t)), (2, .int (nI a)), (3, .int x), (4, .int mk), (5, .int to)] := hl
  refine lv_aload_n hx hb dX2_await_0 rfl (lv_at hl 0 rfl) ?_
  refine lv_iload_n hx hb dX2_await_1 rfl (lv_at hl 1 rfl) ?_
  refine fk_callV (As := [.int (nI t)]) (rest := []) ⟨hx, hb, hml, hown, hts⟩ (kc_taskOf l D ad cI cT cJ X S t ht) (cwV 1 hts gX2_await_X2_taskOf rfl rfl rfl (by decide +kernel) ⟨Nat.le_of_ble_eq_true rfl, Nat.le_of_ble_eq_true rfl⟩) (fk_rvK hK hP) hK hP hD hS hA rfl hl.1 rfl (Nat.le_of_ble_eq_true rfl) dX2_await_2 ⟨Nat.le_of_ble_eq_true rfl, Nat.le_of_ble_eq_true rfl⟩ (fun H locs hP hD hS => ?_)
  refine W.eq (g2 := F0 m 5 ls [.ref (ad (3 + t))]) rfl ?_
  refine lv_astore (lv' := [(6, .ref (ad (3 + t))), (0, .ref (ad 0)), (1, .int (nI t)), (2, .int (nI a)), (3, .int x), (4, .int mk), (5, .int to)]) hx hb dX2_await_5 hl (by decide) rfl (fun ls hl => ?_)
  refine lv_iload_n hx hb dX2_await_7 rfl (lv_at hl 3 rfl) ?_
  refine fk_callS (As := [.int (nI a)]) (rest := []) ⟨hx, hb, hml, hown, hts⟩ (kc_requireAddress l D ad cI cT cJ X S a (by omega)) (va_cwS 1 hts gX2_await_X2_requireAddress rfl rfl rfl (by decide +kernel) ⟨Nat.le_of_ble_eq_true rfl, Nat.le_of_ble_eq_true rfl⟩) hK hP hD hS hA rfl hl.1 rfl (Nat.le_of_ble_eq_true rfl) dX2_await_8 ⟨Nat.le_of_ble_eq_true rfl, Nat.le_of_ble_eq_true rfl⟩ (fun H locs hP hD hS => ?_)
  refine W.eq (g2 := F0 m 11 ls []) rfl ?_
  refine lv_iload hx hb dX2_await_11 (lv_at hl 5 rfl) ?_
  refine lv_iconst (v := 1) hx hb dX2_await_13 (by decide) ?_
  refine lv_sipush (v := 255) hx hb dX2_await_14 (by decide) ?_
  exact fk_xcallS (As := [.int mk, .int 1, .int 255]) (rest := []) ⟨hx, hb, hml, hown, hts⟩ (kx_requireBetween l D ad cI cT cJ X S hst mk 1 255 h) (va_cwS 3 hts gX2_await_X2_requireBetween rfl rfl rfl (by decide +kernel) ⟨Nat.le_of_ble_eq_true rfl, Nat.le_of_ble_eq_true rfl⟩) hK hP hD hS hA hZ rfl hl.1 rfl (Nat.le_of_ble_eq_true rfl) dX2_await_17 ⟨Nat.le_of_ble_eq_true rfl, Nat.le_of_ble_eq_true rfl⟩ (fk_thru hout hlocks hK hD)

set_option maxHeartbeats 4000000 in
set_option maxRecDepth 100000 in
theorem kx_await_4 (l : Launch) (D : va_G) (ad : Nat → Nat) (cI cT cJ : ClassId) (X : va_W) (S : fk_S) (hst : l.stackTraces = false) (t : Nat) (ht : t < 8) (a : Nat) (ha : a < 16) (x mk to : Int32)  (hm0 : fk_btw mk 1 255 = true) (h : fk_btw to 0 10000 = false) : fk_X l D (fk_ty cI cT cJ) yX2_await wsX2_await rx_pub [.ref (ad 0), .int (nI t), .int (nI a), .int x, .int mk, .int to] (fk_kW ad cI cT S ++ X) "java/lang/IllegalArgumentException" := by
  refine fk_X_of (cc := cX2_await) (maxL := 7) (ret := (some .boolean)) (own := RX2) (by decide) rfl rfl (Nat.le_of_ble_eq_true rfl) ?_
  intro p e s m below meth c A ls hx hb hout hlocks hml hts hown hA hP hK hD hZ hl
  have hS : va_S A s.heap s.heap [] := va_S.rf
  have hl : lv_has ls 7 [(0, .ref (ad 0)), (1, .int (nI t)), (2, .int (nI a)), (3, .int x), (4, .int mk), (5, .int to)] := hl
  refine lv_aload_n hx hb dX2_await_0 rfl (lv_at hl 0 rfl) ?_
  refine lv_iload_n hx hb dX2_await_1 rfl (lv_at hl 1 rfl) ?_
  refine fk_callV (As := [.int (nI t)]) (rest := []) ⟨hx, hb, hml, hown, hts⟩ (kc_taskOf l D ad cI cT cJ X S t ht) (cwV 1 hts gX2_await_X2_taskOf rfl rfl rfl (by decide +kernel) ⟨Nat.le_of_ble_eq_true rfl, Nat.le_of_ble_eq_true rfl⟩) (fk_rvK hK hP) hK hP hD hS hA rfl hl.1 rfl (Nat.le_of_ble_eq_true rfl) dX2_await_2 ⟨Nat.le_of_ble_eq_true rfl, Nat.le_of_ble_eq_true rfl⟩ (fun H locs hP hD hS => ?_)
  refine W.eq (g2 := F0 m 5 ls [.ref (ad (3 + t))]) rfl ?_
  refine lv_astore (lv' := [(6, .ref (ad (3 + t))), (0, .ref (ad 0)), (1, .int (nI t)), (2, .int (nI a)), (3, .int x), (4, .int mk), (5, .int to)]) hx hb dX2_await_5 hl (by decide) rfl (fun ls hl => ?_)
  refine lv_iload_n hx hb dX2_await_7 rfl (lv_at hl 3 rfl) ?_
  refine fk_callS (As := [.int (nI a)]) (rest := []) ⟨hx, hb, hml, hown, hts⟩ (kc_requireAddress l D ad cI cT cJ X S a (by omega)) (va_cwS 1 hts gX2_await_X2_requireAddress rfl rfl rfl (by decide +kernel) ⟨Nat.le_of_ble_eq_true rfl, Nat.le_of_ble_eq_true rfl⟩) hK hP hD hS hA rfl hl.1 rfl (Nat.le_of_ble_eq_true rfl) dX2_await_8 ⟨Nat.le_of_ble_eq_true rfl, Nat.le_of_ble_eq_true rfl⟩ (fun H locs hP hD hS => ?_)
  refine W.eq (g2 := F0 m 11 ls []) rfl ?_
  refine lv_iload hx hb dX2_await_11 (lv_at hl 5 rfl) ?_
  refine lv_iconst (v := 1) hx hb dX2_await_13 (by decide) ?_
  refine lv_sipush (v := 255) hx hb dX2_await_14 (by decide) ?_
  refine fk_callS (As := [.int mk, .int 1, .int 255]) (rest := []) ⟨hx, hb, hml, hown, hts⟩ (kc_requireBetween l D ad cI cT cJ X S mk 1 255 hm0) (va_cwS 3 hts gX2_await_X2_requireBetween rfl rfl rfl (by decide +kernel) ⟨Nat.le_of_ble_eq_true rfl, Nat.le_of_ble_eq_true rfl⟩) hK hP hD hS hA rfl hl.1 rfl (Nat.le_of_ble_eq_true rfl) dX2_await_17 ⟨Nat.le_of_ble_eq_true rfl, Nat.le_of_ble_eq_true rfl⟩ (fun H locs hP hD hS => ?_)
  refine W.eq (g2 := F0 m 20 ls []) rfl ?_
  refine lv_iload hx hb dX2_await_20 (lv_at hl 6 rfl) ?_
  refine lv_iconst (v := 0) hx hb dX2_await_22 (by decide) ?_
  refine lv_sipush (v := 10000) hx hb dX2_await_23 (by decide) ?_
  exact fk_xcallS (As := [.int to, .int 0, .int 10000]) (rest := []) ⟨hx, hb, hml, hown, hts⟩ (kx_requireBetween l D ad cI cT cJ X S hst to 0 10000 h) (va_cwS 3 hts gX2_await_X2_requireBetween rfl rfl rfl (by decide +kernel) ⟨Nat.le_of_ble_eq_true rfl, Nat.le_of_ble_eq_true rfl⟩) hK hP hD hS hA hZ rfl hl.1 rfl (Nat.le_of_ble_eq_true rfl) dX2_await_26 ⟨Nat.le_of_ble_eq_true rfl, Nat.le_of_ble_eq_true rfl⟩ (fk_thru hout hlocks hK hD)

set_option maxHeartbeats 4000000 in
set_option maxRecDepth 100000 in
theorem kx_await_5 (l : Launch) (D : va_G) (ad : Nat → Nat) (cI cT cJ : ClassId) (X : va_W) (S : fk_S) (hst : l.stackTraces = false) (t : Nat) (ht : t < 8) (a : Nat) (ha : a < 16) (x mk to : Int32)  (hm0 : fk_btw mk 1 255 = true) (hm1 : fk_btw to 0 10000 = true) (h : ¬ S 1 t = 0) : fk_X l D (fk_ty cI cT cJ) yX2_await wsX2_await rx_pub [.ref (ad 0), .int (nI t), .int (nI a), .int x, .int mk, .int to] (fk_kW ad cI cT S ++ X) "java/lang/IllegalStateException" := by
  refine fk_X_of (cc := cX2_await) (maxL := 7) (ret := (some .boolean)) (own := RX2) (by decide) rfl rfl (Nat.le_of_ble_eq_true rfl) ?_
  intro p e s m below meth c A ls hx hb hout hlocks hml hts hown hA hP hK hD hZ hl
  have hS : va_S A s.heap s.heap [] := va_S.rf
  have hl : lv_has ls 7 [(0, .ref (ad 0)), (1, .int (nI t)), (2, .int (nI a)), (3, .int x), (4, .int mk), (5, .int to)] := hl
  refine lv_aload_n hx hb dX2_await_0 rfl (lv_at hl 0 rfl) ?_
  refine lv_iload_n hx hb dX2_await_1 rfl (lv_at hl 1 rfl) ?_
  refine fk_callV (As := [.int (nI t)]) (rest := []) ⟨hx, hb, hml, hown, hts⟩ (kc_taskOf l D ad cI cT cJ X S t ht) (cwV 1 hts gX2_await_X2_taskOf rfl rfl rfl (by decide +kernel) ⟨Nat.le_of_ble_eq_true rfl, Nat.le_of_ble_eq_true rfl⟩) (fk_rvK hK hP) hK hP hD hS hA rfl hl.1 rfl (Nat.le_of_ble_eq_true rfl) dX2_await_2 ⟨Nat.le_of_ble_eq_true rfl, Nat.le_of_ble_eq_true rfl⟩ (fun H locs hP hD hS => ?_)
  refine W.eq (g2 := F0 m 5 ls [.ref (ad (3 + t))]) rfl ?_
  refine lv_astore (lv' := [(6, .ref (ad (3 + t))), (0, .ref (ad 0)), (1, .int (nI t)), (2, .int (nI a)), (3, .int x), (4, .int mk), (5, .int to)]) hx hb dX2_await_5 hl (by decide) rfl (fun ls hl => ?_)
  refine lv_iload_n hx hb dX2_await_7 rfl (lv_at hl 3 rfl) ?_
  refine fk_callS (As := [.int (nI a)]) (rest := []) ⟨hx, hb, hml, hown, hts⟩ (kc_requireAddress l D ad cI cT cJ X S a (by omega)) (va_cwS 1 hts gX2_await_X2_requireAddress rfl rfl rfl (by decide +kernel) ⟨Nat.le_of_ble_eq_true rfl, Nat.le_of_ble_eq_true rfl⟩) hK hP hD hS hA rfl hl.1 rfl (Nat.le_of_ble_eq_true rfl) dX2_await_8 ⟨Nat.le_of_ble_eq_true rfl, Nat.le_of_ble_eq_true rfl⟩ (fun H locs hP hD hS => ?_)
  refine W.eq (g2 := F0 m 11 ls []) rfl ?_
  refine lv_iload hx hb dX2_await_11 (lv_at hl 5 rfl) ?_
  refine lv_iconst (v := 1) hx hb dX2_await_13 (by decide) ?_
  refine lv_sipush (v := 255) hx hb dX2_await_14 (by decide) ?_
  refine fk_callS (As := [.int mk, .int 1, .int 255]) (rest := []) ⟨hx, hb, hml, hown, hts⟩ (kc_requireBetween l D ad cI cT cJ X S mk 1 255 hm0) (va_cwS 3 hts gX2_await_X2_requireBetween rfl rfl rfl (by decide +kernel) ⟨Nat.le_of_ble_eq_true rfl, Nat.le_of_ble_eq_true rfl⟩) hK hP hD hS hA rfl hl.1 rfl (Nat.le_of_ble_eq_true rfl) dX2_await_17 ⟨Nat.le_of_ble_eq_true rfl, Nat.le_of_ble_eq_true rfl⟩ (fun H locs hP hD hS => ?_)
  refine W.eq (g2 := F0 m 20 ls []) rfl ?_
  refine lv_iload hx hb dX2_await_20 (lv_at hl 6 rfl) ?_
  refine lv_iconst (v := 0) hx hb dX2_await_22 (by decide) ?_
  refine lv_sipush (v := 10000) hx hb dX2_await_23 (by decide) ?_
  refine fk_callS (As := [.int to, .int 0, .int 10000]) (rest := []) ⟨hx, hb, hml, hown, hts⟩ (kc_requireBetween l D ad cI cT cJ X S to 0 10000 hm1) (va_cwS 3 hts gX2_await_X2_requireBetween rfl rfl rfl (by decide +kernel) ⟨Nat.le_of_ble_eq_true rfl, Nat.le_of_ble_eq_true rfl⟩) hK hP hD hS hA rfl hl.1 rfl (Nat.le_of_ble_eq_true rfl) dX2_await_26 ⟨Nat.le_of_ble_eq_true rfl, Nat.le_of_ble_eq_true rfl⟩ (fun H locs hP hD hS => ?_)
  refine W.eq (g2 := F0 m 29 ls []) rfl ?_
  refine lv_aload hx hb dX2_await_29 (lv_at hl 0 rfl) ?_
  exact fk_xcallS (As := [.ref (ad (3 + t))]) (rest := []) ⟨hx, hb, hml, hown, hts⟩ (kx_requireRunning l D ad cI cT cJ X S hst t ht h) (va_cwS 1 hts gX2_await_X2_requireRunning rfl rfl rfl (by decide +kernel) ⟨Nat.le_of_ble_eq_true rfl, Nat.le_of_ble_eq_true rfl⟩) hK hP hD hS hA hZ rfl hl.1 rfl (Nat.le_of_ble_eq_true rfl) dX2_await_31 ⟨Nat.le_of_ble_eq_true rfl, Nat.le_of_ble_eq_true rfl⟩ (fk_thru hout hlocks hK hD)

abbrev rmX2_await : Room := { frames := 2, cells := 0, slots := 0, locals := 47 }
set_option maxHeartbeats 4000000 in
set_option maxRecDepth 100000 in
theorem kc_await (l : Launch) (D : va_G) (ad : Nat → Nat) (cI cT cJ : ClassId) (X : va_W) (S : fk_S) (t : Nat) (ht : t < 8) (a : Nat) (ha : a < 16) (x mk to : Int32) (hr0 : S 1 t = 0)  (hm0 : fk_btw mk 1 255 = true) (hm1 : fk_btw to 0 10000 = true) : fk_C l D (fk_ty cI cT cJ) yX2_await wsX2_await rmX2_await [.ref (ad 0), .int (nI t), .int (nI a), .int x, .int mk, .int to] (fk_kW ad cI cT S ++ X) (some (.int (fk_b (decide (S 0 a = x))))) (fk_kW ad cI cT (kk_await S t a x mk to) ++ X) := by
  refine fk_C_of (cc := cX2_await) (maxL := 7) (ret := (some .boolean)) (own := RX2) (by decide) rfl rfl (Nat.le_of_ble_eq_true rfl) ?_
  intro p e s m below meth c A ls hx hb hr hlocks hml hts hown hA hP hK hD hl
  have hS : va_S A s.heap s.heap [] := va_S.rf
  have hl : lv_has ls 7 [(0, .ref (ad 0)), (1, .int (nI t)), (2, .int (nI a)), (3, .int x), (4, .int mk), (5, .int to)] := hl
  have hiX2 : ∀ w ∈ u_ws RX2 TX2 6, w ∈ wsX2_await := by decide +kernel
  refine lv_aload_n hx hb dX2_await_0 rfl (lv_at hl 0 rfl) ?_
  refine lv_iload_n hx hb dX2_await_1 rfl (lv_at hl 1 rfl) ?_
  refine fk_callV (As := [.int (nI t)]) (rest := []) ⟨hx, hb, hml, hown, hts⟩ (kc_taskOf l D ad cI cT cJ X S t ht) (cwV 1 hts gX2_await_X2_taskOf rfl rfl rfl (by decide +kernel) ⟨Nat.le_of_ble_eq_true rfl, Nat.le_of_ble_eq_true rfl⟩) (fk_rvK hK hP) hK hP hD hS hA rfl hl.1 rfl (Nat.le_of_ble_eq_true rfl) dX2_await_2 ⟨Nat.le_of_ble_eq_true rfl, Nat.le_of_ble_eq_true rfl⟩ (fun H locs hP hD hS => ?_)
  refine W.eq (g2 := F0 m 5 ls [.ref (ad (3 + t))]) rfl ?_
  refine lv_astore (lv' := [(6, .ref (ad (3 + t))), (0, .ref (ad 0)), (1, .int (nI t)), (2, .int (nI a)), (3, .int x), (4, .int mk), (5, .int to)]) hx hb dX2_await_5 hl (by decide) rfl (fun ls hl => ?_)
  refine lv_iload_n hx hb dX2_await_7 rfl (lv_at hl 3 rfl) ?_
  refine fk_callS (As := [.int (nI a)]) (rest := []) ⟨hx, hb, hml, hown, hts⟩ (kc_requireAddress l D ad cI cT cJ X S a (by omega)) (va_cwS 1 hts gX2_await_X2_requireAddress rfl rfl rfl (by decide +kernel) ⟨Nat.le_of_ble_eq_true rfl, Nat.le_of_ble_eq_true rfl⟩) hK hP hD hS hA rfl hl.1 rfl (Nat.le_of_ble_eq_true rfl) dX2_await_8 ⟨Nat.le_of_ble_eq_true rfl, Nat.le_of_ble_eq_true rfl⟩ (fun H locs hP hD hS => ?_)
  refine W.eq (g2 := F0 m 11 ls []) rfl ?_
  refine lv_iload hx hb dX2_await_11 (lv_at hl 5 rfl) ?_
  refine lv_iconst (v := 1) hx hb dX2_await_13 (by decide) ?_
  refine lv_sipush (v := 255) hx hb dX2_await_14 (by decide) ?_
  refine fk_callS (As := [.int mk, .int 1, .int 255]) (rest := []) ⟨hx, hb, hml, hown, hts⟩ (kc_requireBetween l D ad cI cT cJ X S mk 1 255 hm0) (va_cwS 3 hts gX2_await_X2_requireBetween rfl rfl rfl (by decide +kernel) ⟨Nat.le_of_ble_eq_true rfl, Nat.le_of_ble_eq_true rfl⟩) hK hP hD hS hA rfl hl.1 rfl (Nat.le_of_ble_eq_true rfl) dX2_await_17 ⟨Nat.le_of_ble_eq_true rfl, Nat.le_of_ble_eq_true rfl⟩ (fun H locs hP hD hS => ?_)
  refine W.eq (g2 := F0 m 20 ls []) rfl ?_
  refine lv_iload hx hb dX2_await_20 (lv_at hl 6 rfl) ?_
  refine lv_iconst (v := 0) hx hb dX2_await_22 (by decide) ?_
  refine lv_sipush (v := 10000) hx hb dX2_await_23 (by decide) ?_
  refine fk_callS (As := [.int to, .int 0, .int 10000]) (rest := []) ⟨hx, hb, hml, hown, hts⟩ (kc_requireBetween l D ad cI cT cJ X S to 0 10000 hm1) (va_cwS 3 hts gX2_await_X2_requireBetween rfl rfl rfl (by decide +kernel) ⟨Nat.le_of_ble_eq_true rfl, Nat.le_of_ble_eq_true rfl⟩) hK hP hD hS hA rfl hl.1 rfl (Nat.le_of_ble_eq_true rfl) dX2_await_26 ⟨Nat.le_of_ble_eq_true rfl, Nat.le_of_ble_eq_true rfl⟩ (fun H locs hP hD hS => ?_)
  refine W.eq (g2 := F0 m 29 ls []) rfl ?_
  refine lv_aload hx hb dX2_await_29 (lv_at hl 0 rfl) ?_
  refine fk_callS (As := [.ref (ad (3 + t))]) (rest := []) ⟨hx, hb, hml, hown, hts⟩ (kc_requireRunning l D ad cI cT cJ X S t ht hr0) (va_cwS 1 hts gX2_await_X2_requireRunning rfl rfl rfl (by decide +kernel) ⟨Nat.le_of_ble_eq_true rfl, Nat.le_of_ble_eq_true rfl⟩) hK hP hD hS hA rfl hl.1 rfl (Nat.le_of_ble_eq_true rfl) dX2_await_31 ⟨Nat.le_of_ble_eq_true rfl, Nat.le_of_ble_eq_true rfl⟩ (fun H locs hP hD hS => ?_)
  refine W.eq (g2 := F0 m 34 ls []) rfl ?_
  refine lv_aload_n hx hb dX2_await_34 rfl (lv_at hl 1 rfl) ?_
  refine fk_getK hx hb hts hiX2 hown hK hP 0 (by decide) (v := .ref (ad 1)) rfl (List.mem_of_getElem? (i := 1) rfl) rfl dX2_await_35 ?_
  refine lv_iload_n hx hb dX2_await_38 rfl (lv_at hl 3 rfl) ?_
  refine fk_ldW hx hb hK hP (vp_in_nI (show a < 16 from (by omega)) (by decide)) dX2_await_39 ?_
  refine W.eq (g2 := F0 m 40 ls [.int (S 0 a)]) (by rw [nI_clamp (by omega)]) ?_
  refine lv_iload_n hx hb dX2_await_40 rfl (lv_at hl 4 rfl) ?_
  refine lv_icmp_eq (tgt := 46) hx hb dX2_await_41 (by decide) (fun c_1 => ?_) (fun c_1 => ?_)
  · refine lv_aload_n hx hb dX2_await_46 rfl (lv_at hl 1 rfl) ?_
    refine lv_aload hx hb dX2_await_47 (lv_at hl 0 rfl) ?_
    refine lv_iconst (v := 1) hx hb dX2_await_49 (by decide) ?_
    refine lv_iload_n hx hb dX2_await_50 rfl (lv_at hl 3 rfl) ?_
    refine lv_iload hx hb dX2_await_51 (lv_at hl 5 rfl) ?_
    refine lv_iload hx hb dX2_await_53 (lv_at hl 6 rfl) ?_
    refine fk_callV (As := [.ref (ad (3 + t)), .int 1, .int (nI a), .int mk, .int to]) (rest := []) ⟨hx, hb, hml, hown, hts⟩ (kc_beginWait l D ad cI cT cJ X S t 1 (nI a) mk to ht) (cwV 5 hts gX2_await_X2_beginWait rfl rfl rfl (by decide +kernel) ⟨Nat.le_of_ble_eq_true rfl, Nat.le_of_ble_eq_true rfl⟩) (fk_rvK hK hP) hK hP hD hS hA rfl hl.1 rfl (Nat.le_of_ble_eq_true rfl) dX2_await_55 ⟨Nat.le_of_ble_eq_true rfl, Nat.le_of_ble_eq_true rfl⟩ (fun H locs hP hD hS => ?_)
    refine W.eq (g2 := F0 m 58 ls []) rfl ?_
    refine lv_iconst (v := 1) hx hb dX2_await_58 (by decide) ?_
    exact fk_zret hx hb hr hlocks hP hK hD hS (congrArg (fun z => fk_kW ad cI cT z ++ X) (by first | rfl | simp [kk_await, c_1])) rfl (by first | rfl | simp [fk_b, c_1]) dX2_await_59
  · refine lv_iconst (v := 0) hx hb dX2_await_44 (by decide) ?_
    exact fk_zret hx hb hr hlocks hP hK hD hS (congrArg (fun z => fk_kW ad cI cT z ++ X) (by first | rfl | simp [kk_await, c_1])) rfl (by first | rfl | simp [fk_b, c_1]) dX2_await_45

set_option maxHeartbeats 4000000 in
set_option maxRecDepth 100000 in
theorem kx_wake_1 (l : Launch) (D : va_G) (ad : Nat → Nat) (cI cT cJ : ClassId) (X : va_W) (S : fk_S) (hst : l.stackTraces = false) (th av : Int32) (mo mk : Int32) (h : fk_isT th = false) : fk_X l D (fk_ty cI cT cJ) yX2_wake wsX2_wake rx_pub [.ref (ad 0), .int th, .int av, .int mo, .int mk] (fk_kW ad cI cT S ++ X) "java/lang/IndexOutOfBoundsException" := by
  refine fk_X_of (cc := cX2_wake) (maxL := 6) (ret := (some .int)) (own := RX2) (by decide) rfl rfl (Nat.le_of_ble_eq_true rfl) ?_
  intro p e s m below meth c A ls hx hb hout hlocks hml hts hown hA hP hK hD hZ hl
  have hS : va_S A s.heap s.heap [] := va_S.rf
  have hl : lv_has ls 6 [(0, .ref (ad 0)), (1, .int th), (2, .int av), (3, .int mo), (4, .int mk)] := hl
  refine lv_aload_n hx hb dX2_wake_0 rfl (lv_at hl 0 rfl) ?_
  refine lv_iload_n hx hb dX2_wake_1 rfl (lv_at hl 1 rfl) ?_
  exact fk_xcallV (As := [.int th]) (rest := []) ⟨hx, hb, hml, hown, hts⟩ (kx_taskOf l D ad cI cT cJ X S hst th h) (cwV 1 hts gX2_wake_X2_taskOf rfl rfl rfl (by decide +kernel) ⟨Nat.le_of_ble_eq_true rfl, Nat.le_of_ble_eq_true rfl⟩) (fk_rvK hK hP) hK hP hD hS hA hZ rfl hl.1 rfl (Nat.le_of_ble_eq_true rfl) dX2_wake_2 ⟨Nat.le_of_ble_eq_true rfl, Nat.le_of_ble_eq_true rfl⟩ (fk_thru hout hlocks hK hD)

set_option maxHeartbeats 4000000 in
set_option maxRecDepth 100000 in
theorem kx_wake_2 (l : Launch) (D : va_G) (ad : Nat → Nat) (cI cT cJ : ClassId) (X : va_W) (S : fk_S) (hst : l.stackTraces = false) (t : Nat) (ht : t < 8) (av : Int32) (mo mk : Int32) (h : fk_isA av = false) : fk_X l D (fk_ty cI cT cJ) yX2_wake wsX2_wake rx_pub [.ref (ad 0), .int (nI t), .int av, .int mo, .int mk] (fk_kW ad cI cT S ++ X) "java/lang/IndexOutOfBoundsException" := by
  refine fk_X_of (cc := cX2_wake) (maxL := 6) (ret := (some .int)) (own := RX2) (by decide) rfl rfl (Nat.le_of_ble_eq_true rfl) ?_
  intro p e s m below meth c A ls hx hb hout hlocks hml hts hown hA hP hK hD hZ hl
  have hS : va_S A s.heap s.heap [] := va_S.rf
  have hl : lv_has ls 6 [(0, .ref (ad 0)), (1, .int (nI t)), (2, .int av), (3, .int mo), (4, .int mk)] := hl
  refine lv_aload_n hx hb dX2_wake_0 rfl (lv_at hl 0 rfl) ?_
  refine lv_iload_n hx hb dX2_wake_1 rfl (lv_at hl 1 rfl) ?_
  refine fk_callV (As := [.int (nI t)]) (rest := []) ⟨hx, hb, hml, hown, hts⟩ (kc_taskOf l D ad cI cT cJ X S t ht) (cwV 1 hts gX2_wake_X2_taskOf rfl rfl rfl (by decide +kernel) ⟨Nat.le_of_ble_eq_true rfl, Nat.le_of_ble_eq_true rfl⟩) (fk_rvK hK hP) hK hP hD hS hA rfl hl.1 rfl (Nat.le_of_ble_eq_true rfl) dX2_wake_2 ⟨Nat.le_of_ble_eq_true rfl, Nat.le_of_ble_eq_true rfl⟩ (fun H locs hP hD hS => ?_)
  refine W.eq (g2 := F0 m 5 ls [.ref (ad (3 + t))]) rfl ?_
  refine lv_astore (lv' := [(5, .ref (ad (3 + t))), (0, .ref (ad 0)), (1, .int (nI t)), (2, .int av), (3, .int mo), (4, .int mk)]) hx hb dX2_wake_5 hl (by decide) rfl (fun ls hl => ?_)
  refine lv_iload_n hx hb dX2_wake_7 rfl (lv_at hl 3 rfl) ?_
  exact fk_xcallS (As := [.int av]) (rest := []) ⟨hx, hb, hml, hown, hts⟩ (kx_requireAddress l D ad cI cT cJ X S hst av h) (va_cwS 1 hts gX2_wake_X2_requireAddress rfl rfl rfl (by decide +kernel) ⟨Nat.le_of_ble_eq_true rfl, Nat.le_of_ble_eq_true rfl⟩) hK hP hD hS hA hZ rfl hl.1 rfl (Nat.le_of_ble_eq_true rfl) dX2_wake_8 ⟨Nat.le_of_ble_eq_true rfl, Nat.le_of_ble_eq_true rfl⟩ (fk_thru hout hlocks hK hD)

set_option maxHeartbeats 4000000 in
set_option maxRecDepth 100000 in
theorem kx_wake_3 (l : Launch) (D : va_G) (ad : Nat → Nat) (cI cT cJ : ClassId) (X : va_W) (S : fk_S) (hst : l.stackTraces = false) (t : Nat) (ht : t < 8) (a : Nat) (ha : a < 16) (mo mk : Int32)  (h : fk_btw mo 1 8 = false) : fk_X l D (fk_ty cI cT cJ) yX2_wake wsX2_wake rx_pub [.ref (ad 0), .int (nI t), .int (nI a), .int mo, .int mk] (fk_kW ad cI cT S ++ X) "java/lang/IllegalArgumentException" := by
  refine fk_X_of (cc := cX2_wake) (maxL := 6) (ret := (some .int)) (own := RX2) (by decide) rfl rfl (Nat.le_of_ble_eq_true rfl) ?_
  intro p e s m below meth c A ls hx hb hout hlocks hml hts hown hA hP hK hD hZ hl
  have hS : va_S A s.heap s.heap [] := va_S.rf
  have hl : lv_has ls 6 [(0, .ref (ad 0)), (1, .int (nI t)), (2, .int (nI a)), (3, .int mo), (4, .int mk)] := hl
  refine lv_aload_n hx hb dX2_wake_0 rfl (lv_at hl 0 rfl) ?_
  refine lv_iload_n hx hb dX2_wake_1 rfl (lv_at hl 1 rfl) ?_
  refine fk_callV (As := [.int (nI t)]) (rest := []) ⟨hx, hb, hml, hown, hts⟩ (kc_taskOf l D ad cI cT cJ X S t ht) (cwV 1 hts gX2_wake_X2_taskOf rfl rfl rfl (by decide +kernel) ⟨Nat.le_of_ble_eq_true rfl, Nat.le_of_ble_eq_true rfl⟩) (fk_rvK hK hP) hK hP hD hS hA rfl hl.1 rfl (Nat.le_of_ble_eq_true rfl) dX2_wake_2 ⟨Nat.le_of_ble_eq_true rfl, Nat.le_of_ble_eq_true rfl⟩ (fun H locs hP hD hS => ?_)
  refine W.eq (g2 := F0 m 5 ls [.ref (ad (3 + t))]) rfl ?_
  refine lv_astore (lv' := [(5, .ref (ad (3 + t))), (0, .ref (ad 0)), (1, .int (nI t)), (2, .int (nI a)), (3, .int mo), (4, .int mk)]) hx hb dX2_wake_5 hl (by decide) rfl (fun ls hl => ?_)
  refine lv_iload_n hx hb dX2_wake_7 rfl (lv_at hl 3 rfl) ?_
  refine fk_callS (As := [.int (nI a)]) (rest := []) ⟨hx, hb, hml, hown, hts⟩ (kc_requireAddress l D ad cI cT cJ X S a (by omega)) (va_cwS 1 hts gX2_wake_X2_requireAddress rfl rfl rfl (by decide +kernel) ⟨Nat.le_of_ble_eq_true rfl, Nat.le_of_ble_eq_true rfl⟩) hK hP hD hS hA rfl hl.1 rfl (Nat.le_of_ble_eq_true rfl) dX2_wake_8 ⟨Nat.le_of_ble_eq_true rfl, Nat.le_of_ble_eq_true rfl⟩ (fun H locs hP hD hS => ?_)
  refine W.eq (g2 := F0 m 11 ls []) rfl ?_
  refine lv_iload_n hx hb dX2_wake_11 rfl (lv_at hl 4 rfl) ?_
  refine lv_iconst (v := 1) hx hb dX2_wake_12 (by decide) ?_
  refine lv_bipush (v := 8) hx hb dX2_wake_13 (by decide) ?_
  exact fk_xcallS (As := [.int mo, .int 1, .int 8]) (rest := []) ⟨hx, hb, hml, hown, hts⟩ (kx_requireBetween l D ad cI cT cJ X S hst mo 1 8 h) (va_cwS 3 hts gX2_wake_X2_requireBetween rfl rfl rfl (by decide +kernel) ⟨Nat.le_of_ble_eq_true rfl, Nat.le_of_ble_eq_true rfl⟩) hK hP hD hS hA hZ rfl hl.1 rfl (Nat.le_of_ble_eq_true rfl) dX2_wake_15 ⟨Nat.le_of_ble_eq_true rfl, Nat.le_of_ble_eq_true rfl⟩ (fk_thru hout hlocks hK hD)

set_option maxHeartbeats 4000000 in
set_option maxRecDepth 100000 in
theorem kx_wake_4 (l : Launch) (D : va_G) (ad : Nat → Nat) (cI cT cJ : ClassId) (X : va_W) (S : fk_S) (hst : l.stackTraces = false) (t : Nat) (ht : t < 8) (a : Nat) (ha : a < 16) (mo mk : Int32)  (hm0 : fk_btw mo 1 8 = true) (h : fk_btw mk 1 255 = false) : fk_X l D (fk_ty cI cT cJ) yX2_wake wsX2_wake rx_pub [.ref (ad 0), .int (nI t), .int (nI a), .int mo, .int mk] (fk_kW ad cI cT S ++ X) "java/lang/IllegalArgumentException" := by
  refine fk_X_of (cc := cX2_wake) (maxL := 6) (ret := (some .int)) (own := RX2) (by decide) rfl rfl (Nat.le_of_ble_eq_true rfl) ?_
  intro p e s m below meth c A ls hx hb hout hlocks hml hts hown hA hP hK hD hZ hl
  have hS : va_S A s.heap s.heap [] := va_S.rf
  have hl : lv_has ls 6 [(0, .ref (ad 0)), (1, .int (nI t)), (2, .int (nI a)), (3, .int mo), (4, .int mk)] := hl
  refine lv_aload_n hx hb dX2_wake_0 rfl (lv_at hl 0 rfl) ?_
  refine lv_iload_n hx hb dX2_wake_1 rfl (lv_at hl 1 rfl) ?_
  refine fk_callV (As := [.int (nI t)]) (rest := []) ⟨hx, hb, hml, hown, hts⟩ (kc_taskOf l D ad cI cT cJ X S t ht) (cwV 1 hts gX2_wake_X2_taskOf rfl rfl rfl (by decide +kernel) ⟨Nat.le_of_ble_eq_true rfl, Nat.le_of_ble_eq_true rfl⟩) (fk_rvK hK hP) hK hP hD hS hA rfl hl.1 rfl (Nat.le_of_ble_eq_true rfl) dX2_wake_2 ⟨Nat.le_of_ble_eq_true rfl, Nat.le_of_ble_eq_true rfl⟩ (fun H locs hP hD hS => ?_)
  refine W.eq (g2 := F0 m 5 ls [.ref (ad (3 + t))]) rfl ?_
  refine lv_astore (lv' := [(5, .ref (ad (3 + t))), (0, .ref (ad 0)), (1, .int (nI t)), (2, .int (nI a)), (3, .int mo), (4, .int mk)]) hx hb dX2_wake_5 hl (by decide) rfl (fun ls hl => ?_)
  refine lv_iload_n hx hb dX2_wake_7 rfl (lv_at hl 3 rfl) ?_
  refine fk_callS (As := [.int (nI a)]) (rest := []) ⟨hx, hb, hml, hown, hts⟩ (kc_requireAddress l D ad cI cT cJ X S a (by omega)) (va_cwS 1 hts gX2_wake_X2_requireAddress rfl rfl rfl (by decide +kernel) ⟨Nat.le_of_ble_eq_true rfl, Nat.le_of_ble_eq_true rfl⟩) hK hP hD hS hA rfl hl.1 rfl (Nat.le_of_ble_eq_true rfl) dX2_wake_8 ⟨Nat.le_of_ble_eq_true rfl, Nat.le_of_ble_eq_true rfl⟩ (fun H locs hP hD hS => ?_)
  refine W.eq (g2 := F0 m 11 ls []) rfl ?_
  refine lv_iload_n hx hb dX2_wake_11 rfl (lv_at hl 4 rfl) ?_
  refine lv_iconst (v := 1) hx hb dX2_wake_12 (by decide) ?_
  refine lv_bipush (v := 8) hx hb dX2_wake_13 (by decide) ?_
  refine fk_callS (As := [.int mo, .int 1, .int 8]) (rest := []) ⟨hx, hb, hml, hown, hts⟩ (kc_requireBetween l D ad cI cT cJ X S mo 1 8 hm0) (va_cwS 3 hts gX2_wake_X2_requireBetween rfl rfl rfl (by decide +kernel) ⟨Nat.le_of_ble_eq_true rfl, Nat.le_of_ble_eq_true rfl⟩) hK hP hD hS hA rfl hl.1 rfl (Nat.le_of_ble_eq_true rfl) dX2_wake_15 ⟨Nat.le_of_ble_eq_true rfl, Nat.le_of_ble_eq_true rfl⟩ (fun H locs hP hD hS => ?_)
  refine W.eq (g2 := F0 m 18 ls []) rfl ?_
  refine lv_iload hx hb dX2_wake_18 (lv_at hl 5 rfl) ?_
  refine lv_iconst (v := 1) hx hb dX2_wake_20 (by decide) ?_
  refine lv_sipush (v := 255) hx hb dX2_wake_21 (by decide) ?_
  exact fk_xcallS (As := [.int mk, .int 1, .int 255]) (rest := []) ⟨hx, hb, hml, hown, hts⟩ (kx_requireBetween l D ad cI cT cJ X S hst mk 1 255 h) (va_cwS 3 hts gX2_wake_X2_requireBetween rfl rfl rfl (by decide +kernel) ⟨Nat.le_of_ble_eq_true rfl, Nat.le_of_ble_eq_true rfl⟩) hK hP hD hS hA hZ rfl hl.1 rfl (Nat.le_of_ble_eq_true rfl) dX2_wake_24 ⟨Nat.le_of_ble_eq_true rfl, Nat.le_of_ble_eq_true rfl⟩ (fk_thru hout hlocks hK hD)

set_option maxHeartbeats 4000000 in
set_option maxRecDepth 100000 in
theorem kx_wake_5 (l : Launch) (D : va_G) (ad : Nat → Nat) (cI cT cJ : ClassId) (X : va_W) (S : fk_S) (hst : l.stackTraces = false) (t : Nat) (ht : t < 8) (a : Nat) (ha : a < 16) (mo mk : Int32)  (hm0 : fk_btw mo 1 8 = true) (hm1 : fk_btw mk 1 255 = true) (h : ¬ S 1 t = 0) : fk_X l D (fk_ty cI cT cJ) yX2_wake wsX2_wake rx_pub [.ref (ad 0), .int (nI t), .int (nI a), .int mo, .int mk] (fk_kW ad cI cT S ++ X) "java/lang/IllegalStateException" := by
  refine fk_X_of (cc := cX2_wake) (maxL := 6) (ret := (some .int)) (own := RX2) (by decide) rfl rfl (Nat.le_of_ble_eq_true rfl) ?_
  intro p e s m below meth c A ls hx hb hout hlocks hml hts hown hA hP hK hD hZ hl
  have hS : va_S A s.heap s.heap [] := va_S.rf
  have hl : lv_has ls 6 [(0, .ref (ad 0)), (1, .int (nI t)), (2, .int (nI a)), (3, .int mo), (4, .int mk)] := hl
  refine lv_aload_n hx hb dX2_wake_0 rfl (lv_at hl 0 rfl) ?_
  refine lv_iload_n hx hb dX2_wake_1 rfl (lv_at hl 1 rfl) ?_
  refine fk_callV (As := [.int (nI t)]) (rest := []) ⟨hx, hb, hml, hown, hts⟩ (kc_taskOf l D ad cI cT cJ X S t ht) (cwV 1 hts gX2_wake_X2_taskOf rfl rfl rfl (by decide +kernel) ⟨Nat.le_of_ble_eq_true rfl, Nat.le_of_ble_eq_true rfl⟩) (fk_rvK hK hP) hK hP hD hS hA rfl hl.1 rfl (Nat.le_of_ble_eq_true rfl) dX2_wake_2 ⟨Nat.le_of_ble_eq_true rfl, Nat.le_of_ble_eq_true rfl⟩ (fun H locs hP hD hS => ?_)
  refine W.eq (g2 := F0 m 5 ls [.ref (ad (3 + t))]) rfl ?_
  refine lv_astore (lv' := [(5, .ref (ad (3 + t))), (0, .ref (ad 0)), (1, .int (nI t)), (2, .int (nI a)), (3, .int mo), (4, .int mk)]) hx hb dX2_wake_5 hl (by decide) rfl (fun ls hl => ?_)
  refine lv_iload_n hx hb dX2_wake_7 rfl (lv_at hl 3 rfl) ?_
  refine fk_callS (As := [.int (nI a)]) (rest := []) ⟨hx, hb, hml, hown, hts⟩ (kc_requireAddress l D ad cI cT cJ X S a (by omega)) (va_cwS 1 hts gX2_wake_X2_requireAddress rfl rfl rfl (by decide +kernel) ⟨Nat.le_of_ble_eq_true rfl, Nat.le_of_ble_eq_true rfl⟩) hK hP hD hS hA rfl hl.1 rfl (Nat.le_of_ble_eq_true rfl) dX2_wake_8 ⟨Nat.le_of_ble_eq_true rfl, Nat.le_of_ble_eq_true rfl⟩ (fun H locs hP hD hS => ?_)
  refine W.eq (g2 := F0 m 11 ls []) rfl ?_
  refine lv_iload_n hx hb dX2_wake_11 rfl (lv_at hl 4 rfl) ?_
  refine lv_iconst (v := 1) hx hb dX2_wake_12 (by decide) ?_
  refine lv_bipush (v := 8) hx hb dX2_wake_13 (by decide) ?_
  refine fk_callS (As := [.int mo, .int 1, .int 8]) (rest := []) ⟨hx, hb, hml, hown, hts⟩ (kc_requireBetween l D ad cI cT cJ X S mo 1 8 hm0) (va_cwS 3 hts gX2_wake_X2_requireBetween rfl rfl rfl (by decide +kernel) ⟨Nat.le_of_ble_eq_true rfl, Nat.le_of_ble_eq_true rfl⟩) hK hP hD hS hA rfl hl.1 rfl (Nat.le_of_ble_eq_true rfl) dX2_wake_15 ⟨Nat.le_of_ble_eq_true rfl, Nat.le_of_ble_eq_true rfl⟩ (fun H locs hP hD hS => ?_)
  refine W.eq (g2 := F0 m 18 ls []) rfl ?_
  refine lv_iload hx hb dX2_wake_18 (lv_at hl 5 rfl) ?_
  refine lv_iconst (v := 1) hx hb dX2_wake_20 (by decide) ?_
  refine lv_sipush (v := 255) hx hb dX2_wake_21 (by decide) ?_
  refine fk_callS (As := [.int mk, .int 1, .int 255]) (rest := []) ⟨hx, hb, hml, hown, hts⟩ (kc_requireBetween l D ad cI cT cJ X S mk 1 255 hm1) (va_cwS 3 hts gX2_wake_X2_requireBetween rfl rfl rfl (by decide +kernel) ⟨Nat.le_of_ble_eq_true rfl, Nat.le_of_ble_eq_true rfl⟩) hK hP hD hS hA rfl hl.1 rfl (Nat.le_of_ble_eq_true rfl) dX2_wake_24 ⟨Nat.le_of_ble_eq_true rfl, Nat.le_of_ble_eq_true rfl⟩ (fun H locs hP hD hS => ?_)
  refine W.eq (g2 := F0 m 27 ls []) rfl ?_
  refine lv_aload hx hb dX2_wake_27 (lv_at hl 0 rfl) ?_
  exact fk_xcallS (As := [.ref (ad (3 + t))]) (rest := []) ⟨hx, hb, hml, hown, hts⟩ (kx_requireRunning l D ad cI cT cJ X S hst t ht h) (va_cwS 1 hts gX2_wake_X2_requireRunning rfl rfl rfl (by decide +kernel) ⟨Nat.le_of_ble_eq_true rfl, Nat.le_of_ble_eq_true rfl⟩) hK hP hD hS hA hZ rfl hl.1 rfl (Nat.le_of_ble_eq_true rfl) dX2_wake_29 ⟨Nat.le_of_ble_eq_true rfl, Nat.le_of_ble_eq_true rfl⟩ (fk_thru hout hlocks hK hD)

abbrev rmX2_wake : Room := { frames := 6, cells := 0, slots := 0, locals := 141 }
set_option maxHeartbeats 4000000 in
set_option maxRecDepth 100000 in
theorem kc_wake (l : Launch) (D : va_G) (ad : Nat → Nat) (cI cT cJ : ClassId) (X : va_W) (S : fk_S) (t : Nat) (ht : t < 8) (a : Nat) (ha : a < 16) (k : Nat) (hk : k ≤ 8) (mk : Int32) (hr0 : S 1 t = 0) (hm0 : fk_btw (nI k) 1 8 = true) (hm1 : fk_btw mk 1 255 = true) : fk_C l D (fk_ty cI cT cJ) yX2_wake wsX2_wake rmX2_wake [.ref (ad 0), .int (nI t), .int (nI a), .int (nI k), .int mk] (fk_kW ad cI cT S ++ X) (some (.int (nI (kk_wake (nI a) mk k S).1))) (fk_kW ad cI cT (kk_wake (nI a) mk k S).2 ++ X) := by
  refine fk_C_of (cc := cX2_wake) (maxL := 6) (ret := (some .int)) (own := RX2) (by decide) rfl rfl (Nat.le_of_ble_eq_true rfl) ?_
  intro p e s m below meth c A ls hx hb hr hlocks hml hts hown hA hP hK hD hl
  have hS : va_S A s.heap s.heap [] := va_S.rf
  have hl : lv_has ls 6 [(0, .ref (ad 0)), (1, .int (nI t)), (2, .int (nI a)), (3, .int (nI k)), (4, .int mk)] := hl
  refine lv_aload_n hx hb dX2_wake_0 rfl (lv_at hl 0 rfl) ?_
  refine lv_iload_n hx hb dX2_wake_1 rfl (lv_at hl 1 rfl) ?_
  refine fk_callV (As := [.int (nI t)]) (rest := []) ⟨hx, hb, hml, hown, hts⟩ (kc_taskOf l D ad cI cT cJ X S t ht) (cwV 1 hts gX2_wake_X2_taskOf rfl rfl rfl (by decide +kernel) ⟨Nat.le_of_ble_eq_true rfl, Nat.le_of_ble_eq_true rfl⟩) (fk_rvK hK hP) hK hP hD hS hA rfl hl.1 rfl (Nat.le_of_ble_eq_true rfl) dX2_wake_2 ⟨Nat.le_of_ble_eq_true rfl, Nat.le_of_ble_eq_true rfl⟩ (fun H locs hP hD hS => ?_)
  refine W.eq (g2 := F0 m 5 ls [.ref (ad (3 + t))]) rfl ?_
  refine lv_astore (lv' := [(5, .ref (ad (3 + t))), (0, .ref (ad 0)), (1, .int (nI t)), (2, .int (nI a)), (3, .int (nI k)), (4, .int mk)]) hx hb dX2_wake_5 hl (by decide) rfl (fun ls hl => ?_)
  refine lv_iload_n hx hb dX2_wake_7 rfl (lv_at hl 3 rfl) ?_
  refine fk_callS (As := [.int (nI a)]) (rest := []) ⟨hx, hb, hml, hown, hts⟩ (kc_requireAddress l D ad cI cT cJ X S a (by omega)) (va_cwS 1 hts gX2_wake_X2_requireAddress rfl rfl rfl (by decide +kernel) ⟨Nat.le_of_ble_eq_true rfl, Nat.le_of_ble_eq_true rfl⟩) hK hP hD hS hA rfl hl.1 rfl (Nat.le_of_ble_eq_true rfl) dX2_wake_8 ⟨Nat.le_of_ble_eq_true rfl, Nat.le_of_ble_eq_true rfl⟩ (fun H locs hP hD hS => ?_)
  refine W.eq (g2 := F0 m 11 ls []) rfl ?_
  refine lv_iload_n hx hb dX2_wake_11 rfl (lv_at hl 4 rfl) ?_
  refine lv_iconst (v := 1) hx hb dX2_wake_12 (by decide) ?_
  refine lv_bipush (v := 8) hx hb dX2_wake_13 (by decide) ?_
  refine fk_callS (As := [.int (nI k), .int 1, .int 8]) (rest := []) ⟨hx, hb, hml, hown, hts⟩ (kc_requireBetween l D ad cI cT cJ X S (nI k) 1 8 hm0) (va_cwS 3 hts gX2_wake_X2_requireBetween rfl rfl rfl (by decide +kernel) ⟨Nat.le_of_ble_eq_true rfl, Nat.le_of_ble_eq_true rfl⟩) hK hP hD hS hA rfl hl.1 rfl (Nat.le_of_ble_eq_true rfl) dX2_wake_15 ⟨Nat.le_of_ble_eq_true rfl, Nat.le_of_ble_eq_true rfl⟩ (fun H locs hP hD hS => ?_)
  refine W.eq (g2 := F0 m 18 ls []) rfl ?_
  refine lv_iload hx hb dX2_wake_18 (lv_at hl 5 rfl) ?_
  refine lv_iconst (v := 1) hx hb dX2_wake_20 (by decide) ?_
  refine lv_sipush (v := 255) hx hb dX2_wake_21 (by decide) ?_
  refine fk_callS (As := [.int mk, .int 1, .int 255]) (rest := []) ⟨hx, hb, hml, hown, hts⟩ (kc_requireBetween l D ad cI cT cJ X S mk 1 255 hm1) (va_cwS 3 hts gX2_wake_X2_requireBetween rfl rfl rfl (by decide +kernel) ⟨Nat.le_of_ble_eq_true rfl, Nat.le_of_ble_eq_true rfl⟩) hK hP hD hS hA rfl hl.1 rfl (Nat.le_of_ble_eq_true rfl) dX2_wake_24 ⟨Nat.le_of_ble_eq_true rfl, Nat.le_of_ble_eq_true rfl⟩ (fun H locs hP hD hS => ?_)
  refine W.eq (g2 := F0 m 27 ls []) rfl ?_
  refine lv_aload hx hb dX2_wake_27 (lv_at hl 0 rfl) ?_
  refine fk_callS (As := [.ref (ad (3 + t))]) (rest := []) ⟨hx, hb, hml, hown, hts⟩ (kc_requireRunning l D ad cI cT cJ X S t ht hr0) (va_cwS 1 hts gX2_wake_X2_requireRunning rfl rfl rfl (by decide +kernel) ⟨Nat.le_of_ble_eq_true rfl, Nat.le_of_ble_eq_true rfl⟩) hK hP hD hS hA rfl hl.1 rfl (Nat.le_of_ble_eq_true rfl) dX2_wake_29 ⟨Nat.le_of_ble_eq_true rfl, Nat.le_of_ble_eq_true rfl⟩ (fun H locs hP hD hS => ?_)
  refine W.eq (g2 := F0 m 32 ls []) rfl ?_
  refine lv_aload_n hx hb dX2_wake_32 rfl (lv_at hl 1 rfl) ?_
  refine lv_iload_n hx hb dX2_wake_33 rfl (lv_at hl 3 rfl) ?_
  refine lv_iload_n hx hb dX2_wake_34 rfl (lv_at hl 4 rfl) ?_
  refine lv_iload hx hb dX2_wake_35 (lv_at hl 5 rfl) ?_
  refine fk_callV (As := [.int (nI a), .int (nI k), .int mk]) (rest := []) ⟨hx, hb, hml, hown, hts⟩ (kc_wakeFirst l D ad cI cT cJ X S (nI a) mk k (by omega)) (cwV 3 hts gX2_wake_X2_wakeFirst rfl rfl rfl (by decide +kernel) ⟨Nat.le_of_ble_eq_true rfl, Nat.le_of_ble_eq_true rfl⟩) (fk_rvK hK hP) hK hP hD hS hA rfl hl.1 rfl (Nat.le_of_ble_eq_true rfl) dX2_wake_37 ⟨Nat.le_of_ble_eq_true rfl, Nat.le_of_ble_eq_true rfl⟩ (fun H locs hP hD hS => ?_)
  refine W.eq (g2 := F0 m 40 ls [.int (nI ((kk_wake (nI a) mk k S).1))]) rfl ?_
  exact fk_iret hx hb hr hlocks hP hK hD hS (congrArg (fun z => fk_kW ad cI cT z ++ X) (by first | rfl | simp [])) (by rfl) dX2_wake_40
end
section
set_option maxHeartbeats 4000000 in
set_option maxRecDepth 100000 in
theorem kx_requeue_1 (l : Launch) (D : va_G) (ad : Nat → Nat) (cI cT cJ : ClassId) (X : va_W) (S : fk_S) (hst : l.stackTraces = false) (th av x wk bv mv : Int32) (h : fk_isT th = false) : fk_X l D (fk_ty cI cT cJ) yX2_requeue wsX2_requeue rx_pub [.ref (ad 0), .int th, .int av, .int x, .int wk, .int bv, .int mv] (fk_kW ad cI cT S ++ X) "java/lang/IndexOutOfBoundsException" := by
  refine fk_X_of (cc := cX2_requeue) (maxL := 9) (ret := (some .int)) (own := RX2) (by decide) rfl rfl (Nat.le_of_ble_eq_true rfl) ?_
  intro p e s m below meth c A ls hx hb hout hlocks hml hts hown hA hP hK hD hZ hl
  have hS : va_S A s.heap s.heap [] := va_S.rf
  have hl : lv_has ls 9 [(0, .ref (ad 0)), (1, .int th), (2, .int av), (3, .int x), (4, .int wk), (5, .int bv), (6, .int mv)] := hl
  refine lv_aload_n hx hb dX2_requeue_0 rfl (lv_at hl 0 rfl) ?_
  refine lv_iload_n hx hb dX2_requeue_1 rfl (lv_at hl 1 rfl) ?_
  exact fk_xcallV (As := [.int th]) (rest := []) ⟨hx, hb, hml, hown, hts⟩ (kx_taskOf l D ad cI cT cJ X S hst th h) (cwV 1 hts gX2_requeue_X2_taskOf rfl rfl rfl (by decide +kernel) ⟨Nat.le_of_ble_eq_true rfl, Nat.le_of_ble_eq_true rfl⟩) (fk_rvK hK hP) hK hP hD hS hA hZ rfl hl.1 rfl (Nat.le_of_ble_eq_true rfl) dX2_requeue_2 ⟨Nat.le_of_ble_eq_true rfl, Nat.le_of_ble_eq_true rfl⟩ (fk_thru hout hlocks hK hD)

set_option maxHeartbeats 4000000 in
set_option maxRecDepth 100000 in
theorem kx_requeue_2 (l : Launch) (D : va_G) (ad : Nat → Nat) (cI cT cJ : ClassId) (X : va_W) (S : fk_S) (hst : l.stackTraces = false) (t : Nat) (ht : t < 8) (av x wk bv mv : Int32) (h : fk_isA av = false) : fk_X l D (fk_ty cI cT cJ) yX2_requeue wsX2_requeue rx_pub [.ref (ad 0), .int (nI t), .int av, .int x, .int wk, .int bv, .int mv] (fk_kW ad cI cT S ++ X) "java/lang/IndexOutOfBoundsException" := by
  refine fk_X_of (cc := cX2_requeue) (maxL := 9) (ret := (some .int)) (own := RX2) (by decide) rfl rfl (Nat.le_of_ble_eq_true rfl) ?_
  intro p e s m below meth c A ls hx hb hout hlocks hml hts hown hA hP hK hD hZ hl
  have hS : va_S A s.heap s.heap [] := va_S.rf
  have hl : lv_has ls 9 [(0, .ref (ad 0)), (1, .int (nI t)), (2, .int av), (3, .int x), (4, .int wk), (5, .int bv), (6, .int mv)] := hl
  refine lv_aload_n hx hb dX2_requeue_0 rfl (lv_at hl 0 rfl) ?_
  refine lv_iload_n hx hb dX2_requeue_1 rfl (lv_at hl 1 rfl) ?_
  refine fk_callV (As := [.int (nI t)]) (rest := []) ⟨hx, hb, hml, hown, hts⟩ (kc_taskOf l D ad cI cT cJ X S t ht) (cwV 1 hts gX2_requeue_X2_taskOf rfl rfl rfl (by decide +kernel) ⟨Nat.le_of_ble_eq_true rfl, Nat.le_of_ble_eq_true rfl⟩) (fk_rvK hK hP) hK hP hD hS hA rfl hl.1 rfl (Nat.le_of_ble_eq_true rfl) dX2_requeue_2 ⟨Nat.le_of_ble_eq_true rfl, Nat.le_of_ble_eq_true rfl⟩ (fun H locs hP hD hS => ?_)
  refine W.eq (g2 := F0 m 5 ls [.ref (ad (3 + t))]) rfl ?_
  refine lv_astore (lv' := [(7, .ref (ad (3 + t))), (0, .ref (ad 0)), (1, .int (nI t)), (2, .int av), (3, .int x), (4, .int wk), (5, .int bv), (6, .int mv)]) hx hb dX2_requeue_5 hl (by decide) rfl (fun ls hl => ?_)
  refine lv_iload_n hx hb dX2_requeue_7 rfl (lv_at hl 3 rfl) ?_
  exact fk_xcallS (As := [.int av]) (rest := []) ⟨hx, hb, hml, hown, hts⟩ (kx_requireAddress l D ad cI cT cJ X S hst av h) (va_cwS 1 hts gX2_requeue_X2_requireAddress rfl rfl rfl (by decide +kernel) ⟨Nat.le_of_ble_eq_true rfl, Nat.le_of_ble_eq_true rfl⟩) hK hP hD hS hA hZ rfl hl.1 rfl (Nat.le_of_ble_eq_true rfl) dX2_requeue_8 ⟨Nat.le_of_ble_eq_true rfl, Nat.le_of_ble_eq_true rfl⟩ (fk_thru hout hlocks hK hD)

set_option maxHeartbeats 4000000 in
set_option maxRecDepth 100000 in
theorem kx_requeue_3 (l : Launch) (D : va_G) (ad : Nat → Nat) (cI cT cJ : ClassId) (X : va_W) (S : fk_S) (hst : l.stackTraces = false) (t : Nat) (ht : t < 8) (a : Nat) (ha : a < 16) (x wk bv mv : Int32) (h : fk_isA bv = false) : fk_X l D (fk_ty cI cT cJ) yX2_requeue wsX2_requeue rx_pub [.ref (ad 0), .int (nI t), .int (nI a), .int x, .int wk, .int bv, .int mv] (fk_kW ad cI cT S ++ X) "java/lang/IndexOutOfBoundsException" := by
  refine fk_X_of (cc := cX2_requeue) (maxL := 9) (ret := (some .int)) (own := RX2) (by decide) rfl rfl (Nat.le_of_ble_eq_true rfl) ?_
  intro p e s m below meth c A ls hx hb hout hlocks hml hts hown hA hP hK hD hZ hl
  have hS : va_S A s.heap s.heap [] := va_S.rf
  have hl : lv_has ls 9 [(0, .ref (ad 0)), (1, .int (nI t)), (2, .int (nI a)), (3, .int x), (4, .int wk), (5, .int bv), (6, .int mv)] := hl
  refine lv_aload_n hx hb dX2_requeue_0 rfl (lv_at hl 0 rfl) ?_
  refine lv_iload_n hx hb dX2_requeue_1 rfl (lv_at hl 1 rfl) ?_
  refine fk_callV (As := [.int (nI t)]) (rest := []) ⟨hx, hb, hml, hown, hts⟩ (kc_taskOf l D ad cI cT cJ X S t ht) (cwV 1 hts gX2_requeue_X2_taskOf rfl rfl rfl (by decide +kernel) ⟨Nat.le_of_ble_eq_true rfl, Nat.le_of_ble_eq_true rfl⟩) (fk_rvK hK hP) hK hP hD hS hA rfl hl.1 rfl (Nat.le_of_ble_eq_true rfl) dX2_requeue_2 ⟨Nat.le_of_ble_eq_true rfl, Nat.le_of_ble_eq_true rfl⟩ (fun H locs hP hD hS => ?_)
  refine W.eq (g2 := F0 m 5 ls [.ref (ad (3 + t))]) rfl ?_
  refine lv_astore (lv' := [(7, .ref (ad (3 + t))), (0, .ref (ad 0)), (1, .int (nI t)), (2, .int (nI a)), (3, .int x), (4, .int wk), (5, .int bv), (6, .int mv)]) hx hb dX2_requeue_5 hl (by decide) rfl (fun ls hl => ?_)
  refine lv_iload_n hx hb dX2_requeue_7 rfl (lv_at hl 3 rfl) ?_
  refine fk_callS (As := [.int (nI a)]) (rest := []) ⟨hx, hb, hml, hown, hts⟩ (kc_requireAddress l D ad cI cT cJ X S a (by omega)) (va_cwS 1 hts gX2_requeue_X2_requireAddress rfl rfl rfl (by decide +kernel) ⟨Nat.le_of_ble_eq_true rfl, Nat.le_of_ble_eq_true rfl⟩) hK hP hD hS hA rfl hl.1 rfl (Nat.le_of_ble_eq_true rfl) dX2_requeue_8 ⟨Nat.le_of_ble_eq_true rfl, Nat.le_of_ble_eq_true rfl⟩ (fun H locs hP hD hS => ?_)
  refine W.eq (g2 := F0 m 11 ls []) rfl ?_
  refine lv_iload hx hb dX2_requeue_11 (lv_at hl 6 rfl) ?_
  exact fk_xcallS (As := [.int bv]) (rest := []) ⟨hx, hb, hml, hown, hts⟩ (kx_requireAddress l D ad cI cT cJ X S hst bv h) (va_cwS 1 hts gX2_requeue_X2_requireAddress rfl rfl rfl (by decide +kernel) ⟨Nat.le_of_ble_eq_true rfl, Nat.le_of_ble_eq_true rfl⟩) hK hP hD hS hA hZ rfl hl.1 rfl (Nat.le_of_ble_eq_true rfl) dX2_requeue_13 ⟨Nat.le_of_ble_eq_true rfl, Nat.le_of_ble_eq_true rfl⟩ (fk_thru hout hlocks hK hD)

set_option maxHeartbeats 4000000 in
set_option maxRecDepth 100000 in
theorem kx_requeue_4 (l : Launch) (D : va_G) (ad : Nat → Nat) (cI cT cJ : ClassId) (X : va_W) (S : fk_S) (hst : l.stackTraces = false) (t : Nat) (ht : t < 8) (a : Nat) (ha : a < 16) (x wk mv : Int32) : fk_X l D (fk_ty cI cT cJ) yX2_requeue wsX2_requeue rx_pub [.ref (ad 0), .int (nI t), .int (nI a), .int x, .int wk, .int (nI a), .int mv] (fk_kW ad cI cT S ++ X) "java/lang/IllegalArgumentException" := by
  refine fk_X_of (cc := cX2_requeue) (maxL := 9) (ret := (some .int)) (own := RX2) (by decide) rfl rfl (Nat.le_of_ble_eq_true rfl) ?_
  intro p e s m below meth c A ls hx hb hout hlocks hml hts hown hA hP hK hD hZ hl
  have hS : va_S A s.heap s.heap [] := va_S.rf
  have hl : lv_has ls 9 [(0, .ref (ad 0)), (1, .int (nI t)), (2, .int (nI a)), (3, .int x), (4, .int wk), (5, .int (nI a)), (6, .int mv)] := hl
  refine lv_aload_n hx hb dX2_requeue_0 rfl (lv_at hl 0 rfl) ?_
  refine lv_iload_n hx hb dX2_requeue_1 rfl (lv_at hl 1 rfl) ?_
  refine fk_callV (As := [.int (nI t)]) (rest := []) ⟨hx, hb, hml, hown, hts⟩ (kc_taskOf l D ad cI cT cJ X S t ht) (cwV 1 hts gX2_requeue_X2_taskOf rfl rfl rfl (by decide +kernel) ⟨Nat.le_of_ble_eq_true rfl, Nat.le_of_ble_eq_true rfl⟩) (fk_rvK hK hP) hK hP hD hS hA rfl hl.1 rfl (Nat.le_of_ble_eq_true rfl) dX2_requeue_2 ⟨Nat.le_of_ble_eq_true rfl, Nat.le_of_ble_eq_true rfl⟩ (fun H locs hP hD hS => ?_)
  refine W.eq (g2 := F0 m 5 ls [.ref (ad (3 + t))]) rfl ?_
  refine lv_astore (lv' := [(7, .ref (ad (3 + t))), (0, .ref (ad 0)), (1, .int (nI t)), (2, .int (nI a)), (3, .int x), (4, .int wk), (5, .int (nI a)), (6, .int mv)]) hx hb dX2_requeue_5 hl (by decide) rfl (fun ls hl => ?_)
  refine lv_iload_n hx hb dX2_requeue_7 rfl (lv_at hl 3 rfl) ?_
  refine fk_callS (As := [.int (nI a)]) (rest := []) ⟨hx, hb, hml, hown, hts⟩ (kc_requireAddress l D ad cI cT cJ X S a (by omega)) (va_cwS 1 hts gX2_requeue_X2_requireAddress rfl rfl rfl (by decide +kernel) ⟨Nat.le_of_ble_eq_true rfl, Nat.le_of_ble_eq_true rfl⟩) hK hP hD hS hA rfl hl.1 rfl (Nat.le_of_ble_eq_true rfl) dX2_requeue_8 ⟨Nat.le_of_ble_eq_true rfl, Nat.le_of_ble_eq_true rfl⟩ (fun H locs hP hD hS => ?_)
  refine W.eq (g2 := F0 m 11 ls []) rfl ?_
  refine lv_iload hx hb dX2_requeue_11 (lv_at hl 6 rfl) ?_
  refine fk_callS (As := [.int (nI a)]) (rest := []) ⟨hx, hb, hml, hown, hts⟩ (kc_requireAddress l D ad cI cT cJ X S a (by omega)) (va_cwS 1 hts gX2_requeue_X2_requireAddress rfl rfl rfl (by decide +kernel) ⟨Nat.le_of_ble_eq_true rfl, Nat.le_of_ble_eq_true rfl⟩) hK hP hD hS hA rfl hl.1 rfl (Nat.le_of_ble_eq_true rfl) dX2_requeue_13 ⟨Nat.le_of_ble_eq_true rfl, Nat.le_of_ble_eq_true rfl⟩ (fun H locs hP hD hS => ?_)
  refine W.eq (g2 := F0 m 16 ls []) rfl ?_
  refine lv_iload_n hx hb dX2_requeue_16 rfl (lv_at hl 3 rfl) ?_
  refine lv_iload hx hb dX2_requeue_17 (lv_at hl 6 rfl) ?_
  refine lv_icmp_ne (tgt := 32) hx hb dX2_requeue_19 (by decide) (fun c => absurd rfl c) (fun c_1 => ?_)
  exact fk_throw (cls := "java/lang/IllegalArgumentException") (text := "from and to are the same") (ik := 58) (is := 60) (ic := 62) (rest := []) hx hb hst hown (by decide +kernel) (hts _ (List.mem_of_getElem? (i := 1) rfl)) (hts _ (List.mem_of_getElem? (i := 2) rfl)) (by decide +kernel) (vx_hat (fun w h => hts w (List.mem_cons_of_mem _ (List.mem_append_left _ (List.mem_append_left _ (List.mem_append_right _ h))))) fk_b62 (fun w h => va_Nw.use (fk_dc_on (fk_bad_dc w h)) (hZ.2.2.2 w h))) fk_b62g hZ hK hP hD hS (hl.1.trans hml.symm) hout hlocks dX2_requeue_22 dX2_requeue_25 dX2_requeue_26 dX2_requeue_28 dX2_requeue_31 ⟨Nat.le_of_ble_eq_true rfl, Nat.le_of_ble_eq_true rfl, Nat.le_of_ble_eq_true rfl, Nat.le_of_ble_eq_true rfl⟩

set_option maxHeartbeats 4000000 in
set_option maxRecDepth 100000 in
theorem kx_requeue_5 (l : Launch) (D : va_G) (ad : Nat → Nat) (cI cT cJ : ClassId) (X : va_W) (S : fk_S) (hst : l.stackTraces = false) (t : Nat) (ht : t < 8) (a : Nat) (ha : a < 16) (b : Nat) (hb9 : b < 16) (hab : ¬ a = b) (x wk mv : Int32) (h : fk_btw wk 0 8 = false) : fk_X l D (fk_ty cI cT cJ) yX2_requeue wsX2_requeue rx_pub [.ref (ad 0), .int (nI t), .int (nI a), .int x, .int wk, .int (nI b), .int mv] (fk_kW ad cI cT S ++ X) "java/lang/IllegalArgumentException" := by
  refine fk_X_of (cc := cX2_requeue) (maxL := 9) (ret := (some .int)) (own := RX2) (by decide) rfl rfl (Nat.le_of_ble_eq_true rfl) ?_
  intro p e s m below meth c A ls hx hb hout hlocks hml hts hown hA hP hK hD hZ hl
  have hS : va_S A s.heap s.heap [] := va_S.rf
  have hl : lv_has ls 9 [(0, .ref (ad 0)), (1, .int (nI t)), (2, .int (nI a)), (3, .int x), (4, .int wk), (5, .int (nI b)), (6, .int mv)] := hl
  refine lv_aload_n hx hb dX2_requeue_0 rfl (lv_at hl 0 rfl) ?_
  refine lv_iload_n hx hb dX2_requeue_1 rfl (lv_at hl 1 rfl) ?_
  refine fk_callV (As := [.int (nI t)]) (rest := []) ⟨hx, hb, hml, hown, hts⟩ (kc_taskOf l D ad cI cT cJ X S t ht) (cwV 1 hts gX2_requeue_X2_taskOf rfl rfl rfl (by decide +kernel) ⟨Nat.le_of_ble_eq_true rfl, Nat.le_of_ble_eq_true rfl⟩) (fk_rvK hK hP) hK hP hD hS hA rfl hl.1 rfl (Nat.le_of_ble_eq_true rfl) dX2_requeue_2 ⟨Nat.le_of_ble_eq_true rfl, Nat.le_of_ble_eq_true rfl⟩ (fun H locs hP hD hS => ?_)
  refine W.eq (g2 := F0 m 5 ls [.ref (ad (3 + t))]) rfl ?_
  refine lv_astore (lv' := [(7, .ref (ad (3 + t))), (0, .ref (ad 0)), (1, .int (nI t)), (2, .int (nI a)), (3, .int x), (4, .int wk), (5, .int (nI b)), (6, .int mv)]) hx hb dX2_requeue_5 hl (by decide) rfl (fun ls hl => ?_)
  refine lv_iload_n hx hb dX2_requeue_7 rfl (lv_at hl 3 rfl) ?_
  refine fk_callS (As := [.int (nI a)]) (rest := []) ⟨hx, hb, hml, hown, hts⟩ (kc_requireAddress l D ad cI cT cJ X S a (by omega)) (va_cwS 1 hts gX2_requeue_X2_requireAddress rfl rfl rfl (by decide +kernel) ⟨Nat.le_of_ble_eq_true rfl, Nat.le_of_ble_eq_true rfl⟩) hK hP hD hS hA rfl hl.1 rfl (Nat.le_of_ble_eq_true rfl) dX2_requeue_8 ⟨Nat.le_of_ble_eq_true rfl, Nat.le_of_ble_eq_true rfl⟩ (fun H locs hP hD hS => ?_)
  refine W.eq (g2 := F0 m 11 ls []) rfl ?_
  refine lv_iload hx hb dX2_requeue_11 (lv_at hl 6 rfl) ?_
  refine fk_callS (As := [.int (nI b)]) (rest := []) ⟨hx, hb, hml, hown, hts⟩ (kc_requireAddress l D ad cI cT cJ X S b (by omega)) (va_cwS 1 hts gX2_requeue_X2_requireAddress rfl rfl rfl (by decide +kernel) ⟨Nat.le_of_ble_eq_true rfl, Nat.le_of_ble_eq_true rfl⟩) hK hP hD hS hA rfl hl.1 rfl (Nat.le_of_ble_eq_true rfl) dX2_requeue_13 ⟨Nat.le_of_ble_eq_true rfl, Nat.le_of_ble_eq_true rfl⟩ (fun H locs hP hD hS => ?_)
  refine W.eq (g2 := F0 m 16 ls []) rfl ?_
  refine lv_iload_n hx hb dX2_requeue_16 rfl (lv_at hl 3 rfl) ?_
  refine lv_iload hx hb dX2_requeue_17 (lv_at hl 6 rfl) ?_
  refine lv_icmp_ne (tgt := 32) hx hb dX2_requeue_19 (by decide) (fun c_1 => ?_) (fun c => absurd ((nI_eq (by omega) (by omega)).mp c) hab)
  refine lv_iload hx hb dX2_requeue_32 (lv_at hl 5 rfl) ?_
  refine lv_iconst (v := 0) hx hb dX2_requeue_34 (by decide) ?_
  refine lv_bipush (v := 8) hx hb dX2_requeue_35 (by decide) ?_
  exact fk_xcallS (As := [.int wk, .int 0, .int 8]) (rest := []) ⟨hx, hb, hml, hown, hts⟩ (kx_requireBetween l D ad cI cT cJ X S hst wk 0 8 h) (va_cwS 3 hts gX2_requeue_X2_requireBetween rfl rfl rfl (by decide +kernel) ⟨Nat.le_of_ble_eq_true rfl, Nat.le_of_ble_eq_true rfl⟩) hK hP hD hS hA hZ rfl hl.1 rfl (Nat.le_of_ble_eq_true rfl) dX2_requeue_37 ⟨Nat.le_of_ble_eq_true rfl, Nat.le_of_ble_eq_true rfl⟩ (fk_thru hout hlocks hK hD)

set_option maxHeartbeats 4000000 in
set_option maxRecDepth 100000 in
theorem kx_requeue_6 (l : Launch) (D : va_G) (ad : Nat → Nat) (cI cT cJ : ClassId) (X : va_W) (S : fk_S) (hst : l.stackTraces = false) (t : Nat) (ht : t < 8) (a : Nat) (ha : a < 16) (b : Nat) (hb9 : b < 16) (hab : ¬ a = b) (x wk mv : Int32) (hm0 : fk_btw wk 0 8 = true) (h : fk_btw mv 0 8 = false) : fk_X l D (fk_ty cI cT cJ) yX2_requeue wsX2_requeue rx_pub [.ref (ad 0), .int (nI t), .int (nI a), .int x, .int wk, .int (nI b), .int mv] (fk_kW ad cI cT S ++ X) "java/lang/IllegalArgumentException" := by
  refine fk_X_of (cc := cX2_requeue) (maxL := 9) (ret := (some .int)) (own := RX2) (by decide) rfl rfl (Nat.le_of_ble_eq_true rfl) ?_
  intro p e s m below meth c A ls hx hb hout hlocks hml hts hown hA hP hK hD hZ hl
  have hS : va_S A s.heap s.heap [] := va_S.rf
  have hl : lv_has ls 9 [(0, .ref (ad 0)), (1, .int (nI t)), (2, .int (nI a)), (3, .int x), (4, .int wk), (5, .int (nI b)), (6, .int mv)] := hl
  refine lv_aload_n hx hb dX2_requeue_0 rfl (lv_at hl 0 rfl) ?_
  refine lv_iload_n hx hb dX2_requeue_1 rfl (lv_at hl 1 rfl) ?_
  refine fk_callV (As := [.int (nI t)]) (rest := []) ⟨hx, hb, hml, hown, hts⟩ (kc_taskOf l D ad cI cT cJ X S t ht) (cwV 1 hts gX2_requeue_X2_taskOf rfl rfl rfl (by decide +kernel) ⟨Nat.le_of_ble_eq_true rfl, Nat.le_of_ble_eq_true rfl⟩) (fk_rvK hK hP) hK hP hD hS hA rfl hl.1 rfl (Nat.le_of_ble_eq_true rfl) dX2_requeue_2 ⟨Nat.le_of_ble_eq_true rfl, Nat.le_of_ble_eq_true rfl⟩ (fun H locs hP hD hS => ?_)
  refine W.eq (g2 := F0 m 5 ls [.ref (ad (3 + t))]) rfl ?_
  refine lv_astore (lv' := [(7, .ref (ad (3 + t))), (0, .ref (ad 0)), (1, .int (nI t)), (2, .int (nI a)), (3, .int x), (4, .int wk), (5, .int (nI b)), (6, .int mv)]) hx hb dX2_requeue_5 hl (by decide) rfl (fun ls hl => ?_)
  refine lv_iload_n hx hb dX2_requeue_7 rfl (lv_at hl 3 rfl) ?_
  refine fk_callS (As := [.int (nI a)]) (rest := []) ⟨hx, hb, hml, hown, hts⟩ (kc_requireAddress l D ad cI cT cJ X S a (by omega)) (va_cwS 1 hts gX2_requeue_X2_requireAddress rfl rfl rfl (by decide +kernel) ⟨Nat.le_of_ble_eq_true rfl, Nat.le_of_ble_eq_true rfl⟩) hK hP hD hS hA rfl hl.1 rfl (Nat.le_of_ble_eq_true rfl) dX2_requeue_8 ⟨Nat.le_of_ble_eq_true rfl, Nat.le_of_ble_eq_true rfl⟩ (fun H locs hP hD hS => ?_)
  refine W.eq (g2 := F0 m 11 ls []) rfl ?_
  refine lv_iload hx hb dX2_requeue_11 (lv_at hl 6 rfl) ?_
  refine fk_callS (As := [.int (nI b)]) (rest := []) ⟨hx, hb, hml, hown, hts⟩ (kc_requireAddress l D ad cI cT cJ X S b (by omega)) (va_cwS 1 hts gX2_requeue_X2_requireAddress rfl rfl rfl (by decide +kernel) ⟨Nat.le_of_ble_eq_true rfl, Nat.le_of_ble_eq_true rfl⟩) hK hP hD hS hA rfl hl.1 rfl (Nat.le_of_ble_eq_true rfl) dX2_requeue_13 ⟨Nat.le_of_ble_eq_true rfl, Nat.le_of_ble_eq_true rfl⟩ (fun H locs hP hD hS => ?_)
  refine W.eq (g2 := F0 m 16 ls []) rfl ?_
  refine lv_iload_n hx hb dX2_requeue_16 rfl (lv_at hl 3 rfl) ?_
  refine lv_iload hx hb dX2_requeue_17 (lv_at hl 6 rfl) ?_
  refine lv_icmp_ne (tgt := 32) hx hb dX2_requeue_19 (by decide) (fun c_1 => ?_) (fun c => absurd ((nI_eq (by omega) (by omega)).mp c) hab)
  refine lv_iload hx hb dX2_requeue_32 (lv_at hl 5 rfl) ?_
  refine lv_iconst (v := 0) hx hb dX2_requeue_34 (by decide) ?_
  refine lv_bipush (v := 8) hx hb dX2_requeue_35 (by decide) ?_
  refine fk_callS (As := [.int wk, .int 0, .int 8]) (rest := []) ⟨hx, hb, hml, hown, hts⟩ (kc_requireBetween l D ad cI cT cJ X S wk 0 8 hm0) (va_cwS 3 hts gX2_requeue_X2_requireBetween rfl rfl rfl (by decide +kernel) ⟨Nat.le_of_ble_eq_true rfl, Nat.le_of_ble_eq_true rfl⟩) hK hP hD hS hA rfl hl.1 rfl (Nat.le_of_ble_eq_true rfl) dX2_requeue_37 ⟨Nat.le_of_ble_eq_true rfl, Nat.le_of_ble_eq_true rfl⟩ (fun H locs hP hD hS => ?_)
  refine W.eq (g2 := F0 m 40 ls []) rfl ?_
  refine lv_iload hx hb dX2_requeue_40 (lv_at hl 7 rfl) ?_
  refine lv_iconst (v := 0) hx hb dX2_requeue_42 (by decide) ?_
  refine lv_bipush (v := 8) hx hb dX2_requeue_43 (by decide) ?_
  exact fk_xcallS (As := [.int mv, .int 0, .int 8]) (rest := []) ⟨hx, hb, hml, hown, hts⟩ (kx_requireBetween l D ad cI cT cJ X S hst mv 0 8 h) (va_cwS 3 hts gX2_requeue_X2_requireBetween rfl rfl rfl (by decide +kernel) ⟨Nat.le_of_ble_eq_true rfl, Nat.le_of_ble_eq_true rfl⟩) hK hP hD hS hA hZ rfl hl.1 rfl (Nat.le_of_ble_eq_true rfl) dX2_requeue_45 ⟨Nat.le_of_ble_eq_true rfl, Nat.le_of_ble_eq_true rfl⟩ (fk_thru hout hlocks hK hD)

set_option maxHeartbeats 4000000 in
set_option maxRecDepth 100000 in
theorem kx_requeue_7 (l : Launch) (D : va_G) (ad : Nat → Nat) (cI cT cJ : ClassId) (X : va_W) (S : fk_S) (hst : l.stackTraces = false) (t : Nat) (ht : t < 8) (a : Nat) (ha : a < 16) (b : Nat) (hb9 : b < 16) (hab : ¬ a = b) (x wk mv : Int32) (hm0 : fk_btw wk 0 8 = true) (hm1 : fk_btw mv 0 8 = true) (h : ¬ S 1 t = 0) : fk_X l D (fk_ty cI cT cJ) yX2_requeue wsX2_requeue rx_pub [.ref (ad 0), .int (nI t), .int (nI a), .int x, .int wk, .int (nI b), .int mv] (fk_kW ad cI cT S ++ X) "java/lang/IllegalStateException" := by
  refine fk_X_of (cc := cX2_requeue) (maxL := 9) (ret := (some .int)) (own := RX2) (by decide) rfl rfl (Nat.le_of_ble_eq_true rfl) ?_
  intro p e s m below meth c A ls hx hb hout hlocks hml hts hown hA hP hK hD hZ hl
  have hS : va_S A s.heap s.heap [] := va_S.rf
  have hl : lv_has ls 9 [(0, .ref (ad 0)), (1, .int (nI t)), (2, .int (nI a)), (3, .int x), (4, .int wk), (5, .int (nI b)), (6, .int mv)] := hl
  refine lv_aload_n hx hb dX2_requeue_0 rfl (lv_at hl 0 rfl) ?_
  refine lv_iload_n hx hb dX2_requeue_1 rfl (lv_at hl 1 rfl) ?_
  refine fk_callV (As := [.int (nI t)]) (rest := []) ⟨hx, hb, hml, hown, hts⟩ (kc_taskOf l D ad cI cT cJ X S t ht) (cwV 1 hts gX2_requeue_X2_taskOf rfl rfl rfl (by decide +kernel) ⟨Nat.le_of_ble_eq_true rfl, Nat.le_of_ble_eq_true rfl⟩) (fk_rvK hK hP) hK hP hD hS hA rfl hl.1 rfl (Nat.le_of_ble_eq_true rfl) dX2_requeue_2 ⟨Nat.le_of_ble_eq_true rfl, Nat.le_of_ble_eq_true rfl⟩ (fun H locs hP hD hS => ?_)
  refine W.eq (g2 := F0 m 5 ls [.ref (ad (3 + t))]) rfl ?_
  refine lv_astore (lv' := [(7, .ref (ad (3 + t))), (0, .ref (ad 0)), (1, .int (nI t)), (2, .int (nI a)), (3, .int x), (4, .int wk), (5, .int (nI b)), (6, .int mv)]) hx hb dX2_requeue_5 hl (by decide) rfl (fun ls hl => ?_)
  refine lv_iload_n hx hb dX2_requeue_7 rfl (lv_at hl 3 rfl) ?_
  refine fk_callS (As := [.int (nI a)]) (rest := []) ⟨hx, hb, hml, hown, hts⟩ (kc_requireAddress l D ad cI cT cJ X S a (by omega)) (va_cwS 1 hts gX2_requeue_X2_requireAddress rfl rfl rfl (by decide +kernel) ⟨Nat.le_of_ble_eq_true rfl, Nat.le_of_ble_eq_true rfl⟩) hK hP hD hS hA rfl hl.1 rfl (Nat.le_of_ble_eq_true rfl) dX2_requeue_8 ⟨Nat.le_of_ble_eq_true rfl, Nat.le_of_ble_eq_true rfl⟩ (fun H locs hP hD hS => ?_)
  refine W.eq (g2 := F0 m 11 ls []) rfl ?_
  refine lv_iload hx hb dX2_requeue_11 (lv_at hl 6 rfl) ?_
  refine fk_callS (As := [.int (nI b)]) (rest := []) ⟨hx, hb, hml, hown, hts⟩ (kc_requireAddress l D ad cI cT cJ X S b (by omega)) (va_cwS 1 hts gX2_requeue_X2_requireAddress rfl rfl rfl (by decide +kernel) ⟨Nat.le_of_ble_eq_true rfl, Nat.le_of_ble_eq_true rfl⟩) hK hP hD hS hA rfl hl.1 rfl (Nat.le_of_ble_eq_true rfl) dX2_requeue_13 ⟨Nat.le_of_ble_eq_true rfl, Nat.le_of_ble_eq_true rfl⟩ (fun H locs hP hD hS => ?_)
  refine W.eq (g2 := F0 m 16 ls []) rfl ?_
  refine lv_iload_n hx hb dX2_requeue_16 rfl (lv_at hl 3 rfl) ?_
  refine lv_iload hx hb dX2_requeue_17 (lv_at hl 6 rfl) ?_
  refine lv_icmp_ne (tgt := 32) hx hb dX2_requeue_19 (by decide) (fun c_1 => ?_) (fun c => absurd ((nI_eq (by omega) (by omega)).mp c) hab)
  refine lv_iload hx hb dX2_requeue_32 (lv_at hl 5 rfl) ?_
  refine lv_iconst (v := 0) hx hb dX2_requeue_34 (by decide) ?_
  refine lv_bipush (v := 8) hx hb dX2_requeue_35 (by decide) ?_
  refine fk_callS (As := [.int wk, .int 0, .int 8]) (rest := []) ⟨hx, hb, hml, hown, hts⟩ (kc_requireBetween l D ad cI cT cJ X S wk 0 8 hm0) (va_cwS 3 hts gX2_requeue_X2_requireBetween rfl rfl rfl (by decide +kernel) ⟨Nat.le_of_ble_eq_true rfl, Nat.le_of_ble_eq_true rfl⟩) hK hP hD hS hA rfl hl.1 rfl (Nat.le_of_ble_eq_true rfl) dX2_requeue_37 ⟨Nat.le_of_ble_eq_true rfl, Nat.le_of_ble_eq_true rfl⟩ (fun H locs hP hD hS => ?_)
  refine W.eq (g2 := F0 m 40 ls []) rfl ?_
  refine lv_iload hx hb dX2_requeue_40 (lv_at hl 7 rfl) ?_
  refine lv_iconst (v := 0) hx hb dX2_requeue_42 (by decide) ?_
  refine lv_bipush (v := 8) hx hb dX2_requeue_43 (by decide) ?_
  refine fk_callS (As := [.int mv, .int 0, .int 8]) (rest := []) ⟨hx, hb, hml, hown, hts⟩ (kc_requireBetween l D ad cI cT cJ X S mv 0 8 hm1) (va_cwS 3 hts gX2_requeue_X2_requireBetween rfl rfl rfl (by decide +kernel) ⟨Nat.le_of_ble_eq_true rfl, Nat.le_of_ble_eq_true rfl⟩) hK hP hD hS hA rfl hl.1 rfl (Nat.le_of_ble_eq_true rfl) dX2_requeue_45 ⟨Nat.le_of_ble_eq_true rfl, Nat.le_of_ble_eq_true rfl⟩ (fun H locs hP hD hS => ?_)
  refine W.eq (g2 := F0 m 48 ls []) rfl ?_
  refine lv_aload hx hb dX2_requeue_48 (lv_at hl 0 rfl) ?_
  exact fk_xcallS (As := [.ref (ad (3 + t))]) (rest := []) ⟨hx, hb, hml, hown, hts⟩ (kx_requireRunning l D ad cI cT cJ X S hst t ht h) (va_cwS 1 hts gX2_requeue_X2_requireRunning rfl rfl rfl (by decide +kernel) ⟨Nat.le_of_ble_eq_true rfl, Nat.le_of_ble_eq_true rfl⟩) hK hP hD hS hA hZ rfl hl.1 rfl (Nat.le_of_ble_eq_true rfl) dX2_requeue_50 ⟨Nat.le_of_ble_eq_true rfl, Nat.le_of_ble_eq_true rfl⟩ (fk_thru hout hlocks hK hD)

abbrev rmX2_requeue : Room := { frames := 6, cells := 0, slots := 0, locals := 141 }
set_option maxHeartbeats 4000000 in
set_option maxRecDepth 100000 in
theorem kc_requeue (l : Launch) (D : va_G) (ad : Nat → Nat) (cI cT cJ : ClassId) (X : va_W) (S : fk_S) (t : Nat) (ht : t < 8) (a : Nat) (ha : a < 16) (b : Nat) (hb9 : b < 16) (hab : ¬ a = b) (k j : Nat) (hk : k ≤ 8) (hj : j ≤ 8) (x : Int32) (hr0 : S 1 t = 0) (hm0 : fk_btw (nI k) 0 8 = true) (hm1 : fk_btw (nI j) 0 8 = true) : fk_C l D (fk_ty cI cT cJ) yX2_requeue wsX2_requeue rmX2_requeue [.ref (ad 0), .int (nI t), .int (nI a), .int x, .int (nI k), .int (nI b), .int (nI j)] (fk_kW ad cI cT S ++ X) (some (.int (kk_requeueR S a b x k j))) (fk_kW ad cI cT (kk_requeue S a b x k j) ++ X) := by
  refine fk_C_of (cc := cX2_requeue) (maxL := 9) (ret := (some .int)) (own := RX2) (by decide) rfl rfl (Nat.le_of_ble_eq_true rfl) ?_
  intro p e s m below meth c A ls hx hb hr hlocks hml hts hown hA hP hK hD hl
  have hS : va_S A s.heap s.heap [] := va_S.rf
  have hl : lv_has ls 9 [(0, .ref (ad 0)), (1, .int (nI t)), (2, .int (nI a)), (3, .int x), (4, .int (nI k)), (5, .int (nI b)), (6, .int (nI j))] := hl
  have hiX2 : ∀ w ∈ u_ws RX2 TX2 6, w ∈ wsX2_requeue := by decide +kernel
  refine lv_aload_n hx hb dX2_requeue_0 rfl (lv_at hl 0 rfl) ?_
  refine lv_iload_n hx hb dX2_requeue_1 rfl (lv_at hl 1 rfl) ?_
  refine fk_callV (As := [.int (nI t)]) (rest := []) ⟨hx, hb, hml, hown, hts⟩ (kc_taskOf l D ad cI cT cJ X S t ht) (cwV 1 hts gX2_requeue_X2_taskOf rfl rfl rfl (by decide +kernel) ⟨Nat.le_of_ble_eq_true rfl, Nat.le_of_ble_eq_true rfl⟩) (fk_rvK hK hP) hK hP hD hS hA rfl hl.1 rfl (Nat.le_of_ble_eq_true rfl) dX2_requeue_2 ⟨Nat.le_of_ble_eq_true rfl, Nat.le_of_ble_eq_true rfl⟩ (fun H locs hP hD hS => ?_)
  refine W.eq (g2 := F0 m 5 ls [.ref (ad (3 + t))]) rfl ?_
  refine lv_astore (lv' := [(7, .ref (ad (3 + t))), (0, .ref (ad 0)), (1, .int (nI t)), (2, .int (nI a)), (3, .int x), (4, .int (nI k)), (5, .int (nI b)), (6, .int (nI j))]) hx hb dX2_requeue_5 hl (by decide) rfl (fun ls hl => ?_)
  refine lv_iload_n hx hb dX2_requeue_7 rfl (lv_at hl 3 rfl) ?_
  refine fk_callS (As := [.int (nI a)]) (rest := []) ⟨hx, hb, hml, hown, hts⟩ (kc_requireAddress l D ad cI cT cJ X S a (by omega)) (va_cwS 1 hts gX2_requeue_X2_requireAddress rfl rfl rfl (by decide +kernel) ⟨Nat.le_of_ble_eq_true rfl, Nat.le_of_ble_eq_true rfl⟩) hK hP hD hS hA rfl hl.1 rfl (Nat.le_of_ble_eq_true rfl) dX2_requeue_8 ⟨Nat.le_of_ble_eq_true rfl, Nat.le_of_ble_eq_true rfl⟩ (fun H locs hP hD hS => ?_)
  refine W.eq (g2 := F0 m 11 ls []) rfl ?_
  refine lv_iload hx hb dX2_requeue_11 (lv_at hl 6 rfl) ?_
  refine fk_callS (As := [.int (nI b)]) (rest := []) ⟨hx, hb, hml, hown, hts⟩ (kc_requireAddress l D ad cI cT cJ X S b (by omega)) (va_cwS 1 hts gX2_requeue_X2_requireAddress rfl rfl rfl (by decide +kernel) ⟨Nat.le_of_ble_eq_true rfl, Nat.le_of_ble_eq_true rfl⟩) hK hP hD hS hA rfl hl.1 rfl (Nat.le_of_ble_eq_true rfl) dX2_requeue_13 ⟨Nat.le_of_ble_eq_true rfl, Nat.le_of_ble_eq_true rfl⟩ (fun H locs hP hD hS => ?_)
  refine W.eq (g2 := F0 m 16 ls []) rfl ?_
  refine lv_iload_n hx hb dX2_requeue_16 rfl (lv_at hl 3 rfl) ?_
  refine lv_iload hx hb dX2_requeue_17 (lv_at hl 6 rfl) ?_
  refine lv_icmp_ne (tgt := 32) hx hb dX2_requeue_19 (by decide) (fun c_1 => ?_) (fun c => absurd ((nI_eq (by omega) (by omega)).mp c) hab)
  refine lv_iload hx hb dX2_requeue_32 (lv_at hl 5 rfl) ?_
  refine lv_iconst (v := 0) hx hb dX2_requeue_34 (by decide) ?_
  refine lv_bipush (v := 8) hx hb dX2_requeue_35 (by decide) ?_
  refine fk_callS (As := [.int (nI k), .int 0, .int 8]) (rest := []) ⟨hx, hb, hml, hown, hts⟩ (kc_requireBetween l D ad cI cT cJ X S (nI k) 0 8 hm0) (va_cwS 3 hts gX2_requeue_X2_requireBetween rfl rfl rfl (by decide +kernel) ⟨Nat.le_of_ble_eq_true rfl, Nat.le_of_ble_eq_true rfl⟩) hK hP hD hS hA rfl hl.1 rfl (Nat.le_of_ble_eq_true rfl) dX2_requeue_37 ⟨Nat.le_of_ble_eq_true rfl, Nat.le_of_ble_eq_true rfl⟩ (fun H locs hP hD hS => ?_)
  refine W.eq (g2 := F0 m 40 ls []) rfl ?_
  refine lv_iload hx hb dX2_requeue_40 (lv_at hl 7 rfl) ?_
  refine lv_iconst (v := 0) hx hb dX2_requeue_42 (by decide) ?_
  refine lv_bipush (v := 8) hx hb dX2_requeue_43 (by decide) ?_
  refine fk_callS (As := [.int (nI j), .int 0, .int 8]) (rest := []) ⟨hx, hb, hml, hown, hts⟩ (kc_requireBetween l D ad cI cT cJ X S (nI j) 0 8 hm1) (va_cwS 3 hts gX2_requeue_X2_requireBetween rfl rfl rfl (by decide +kernel) ⟨Nat.le_of_ble_eq_true rfl, Nat.le_of_ble_eq_true rfl⟩) hK hP hD hS hA rfl hl.1 rfl (Nat.le_of_ble_eq_true rfl) dX2_requeue_45 ⟨Nat.le_of_ble_eq_true rfl, Nat.le_of_ble_eq_true rfl⟩ (fun H locs hP hD hS => ?_)
  refine W.eq (g2 := F0 m 48 ls []) rfl ?_
  refine lv_aload hx hb dX2_requeue_48 (lv_at hl 0 rfl) ?_
  refine fk_callS (As := [.ref (ad (3 + t))]) (rest := []) ⟨hx, hb, hml, hown, hts⟩ (kc_requireRunning l D ad cI cT cJ X S t ht hr0) (va_cwS 1 hts gX2_requeue_X2_requireRunning rfl rfl rfl (by decide +kernel) ⟨Nat.le_of_ble_eq_true rfl, Nat.le_of_ble_eq_true rfl⟩) hK hP hD hS hA rfl hl.1 rfl (Nat.le_of_ble_eq_true rfl) dX2_requeue_50 ⟨Nat.le_of_ble_eq_true rfl, Nat.le_of_ble_eq_true rfl⟩ (fun H locs hP hD hS => ?_)
  refine W.eq (g2 := F0 m 53 ls []) rfl ?_
  refine lv_aload_n hx hb dX2_requeue_53 rfl (lv_at hl 1 rfl) ?_
  refine fk_getK hx hb hts hiX2 hown hK hP 0 (by decide) (v := .ref (ad 1)) rfl (List.mem_of_getElem? (i := 3) rfl) rfl dX2_requeue_54 ?_
  refine lv_iload_n hx hb dX2_requeue_57 rfl (lv_at hl 3 rfl) ?_
  refine fk_ldW hx hb hK hP (vp_in_nI (show a < 16 from (by omega)) (by decide)) dX2_requeue_58 ?_
  refine W.eq (g2 := F0 m 59 ls [.int (S 0 a)]) (by rw [nI_clamp (by omega)]) ?_
  refine lv_iload_n hx hb dX2_requeue_59 rfl (lv_at hl 4 rfl) ?_
  refine lv_icmp_eq (tgt := 65) hx hb dX2_requeue_60 (by decide) (fun c_2 => ?_) (fun c_2 => ?_)
  · refine lv_aload_n hx hb dX2_requeue_65 rfl (lv_at hl 1 rfl) ?_
    refine lv_iload_n hx hb dX2_requeue_66 rfl (lv_at hl 3 rfl) ?_
    refine lv_iload hx hb dX2_requeue_67 (lv_at hl 5 rfl) ?_
    refine lv_sipush (v := 255) hx hb dX2_requeue_69 (by decide) ?_
    refine fk_callV (As := [.int (nI a), .int (nI k), .int 255]) (rest := []) ⟨hx, hb, hml, hown, hts⟩ (kc_wakeFirst l D ad cI cT cJ X S (nI a) 255 k (by omega)) (cwV 3 hts gX2_requeue_X2_wakeFirst rfl rfl rfl (by decide +kernel) ⟨Nat.le_of_ble_eq_true rfl, Nat.le_of_ble_eq_true rfl⟩) (fk_rvK hK hP) hK hP hD hS hA rfl hl.1 rfl (Nat.le_of_ble_eq_true rfl) dX2_requeue_72 ⟨Nat.le_of_ble_eq_true rfl, Nat.le_of_ble_eq_true rfl⟩ (fun H locs hP hD hS => ?_)
    refine W.eq (g2 := F0 m 75 ls [.int (nI ((kk_wake (nI a) 255 k S).1))]) rfl ?_
    refine lv_istore (lv' := [(8, .int (nI ((kk_wake (nI a) 255 k S).1))), (7, .ref (ad (3 + t))), (0, .ref (ad 0)), (1, .int (nI t)), (2, .int (nI a)), (3, .int x), (4, .int (nI k)), (5, .int (nI b)), (6, .int (nI j))]) hx hb dX2_requeue_75 hl (by decide) rfl (fun ls hl => ?_)
    refine lv_iload hx hb dX2_requeue_77 (lv_at hl 0 rfl) ?_
    refine lv_aload_n hx hb dX2_requeue_79 rfl (lv_at hl 2 rfl) ?_
    refine lv_iload_n hx hb dX2_requeue_80 rfl (lv_at hl 4 rfl) ?_
    refine lv_iload hx hb dX2_requeue_81 (lv_at hl 7 rfl) ?_
    refine lv_iload hx hb dX2_requeue_83 (lv_at hl 8 rfl) ?_
    refine fk_callV (As := [.int (nI a), .int (nI b), .int (nI j)]) (rest := [.int (nI ((kk_wake (nI a) 255 k S).1))]) ⟨hx, hb, hml, hown, hts⟩ (kc_moveFirst l D ad cI cT cJ X ((kk_wake (nI a) 255 k S).2) (nI a) (nI b) j (by omega)) (cwV 3 hts gX2_requeue_X2_moveFirst rfl rfl rfl (by decide +kernel) ⟨Nat.le_of_ble_eq_true rfl, Nat.le_of_ble_eq_true rfl⟩) (fk_rvK hK hP) hK hP hD hS hA rfl hl.1 rfl (Nat.le_of_ble_eq_true rfl) dX2_requeue_85 ⟨Nat.le_of_ble_eq_true rfl, Nat.le_of_ble_eq_true rfl⟩ (fun H locs hP hD hS => ?_)
    refine W.eq (g2 := F0 m 88 ls [.int (nI ((kk_move (nI a) (nI b) j ((kk_wake (nI a) 255 k S).2)).1)), .int (nI ((kk_wake (nI a) 255 k S).1))]) rfl ?_
    refine lv_iadd hx hb dX2_requeue_88 ?_
    refine W.eq (g2 := F0 m 89 ls [.int (nI ((kk_wake (nI a) 255 k S).1 + (kk_move (nI a) (nI b) j ((kk_wake (nI a) 255 k S).2)).1))]) (by rw [nI_add]) ?_
    exact fk_iret hx hb hr hlocks hP hK hD hS (congrArg (fun z => fk_kW ad cI cT z ++ X) (by first | rfl | simp [kk_requeue, c_1, c_2])) (by first | rfl | simp [kk_requeueR, c_1, c_2]) dX2_requeue_89
  · refine lv_iconst (v := (-1)) hx hb dX2_requeue_63 (by decide) ?_
    exact fk_iret hx hb hr hlocks hP hK hD hS (congrArg (fun z => fk_kW ad cI cT z ++ X) (by first | rfl | simp [kk_requeue, c_1, c_2])) (by first | rfl | simp [kk_requeueR, c_1, c_2]) dX2_requeue_64

set_option maxHeartbeats 4000000 in
set_option maxRecDepth 100000 in
theorem kx_lock_1 (l : Launch) (D : va_G) (ad : Nat → Nat) (cI cT cJ : ClassId) (X : va_W) (S : fk_S) (hst : l.stackTraces = false) (th av : Int32) (to : Int32) (h : fk_isT th = false) : fk_X l D (fk_ty cI cT cJ) yX2_lock wsX2_lock rx_pub [.ref (ad 0), .int th, .int av, .int to] (fk_kW ad cI cT S ++ X) "java/lang/IndexOutOfBoundsException" := by
  refine fk_X_of (cc := cX2_lock) (maxL := 7) (ret := (some .int)) (own := RX2) (by decide) rfl rfl (Nat.le_of_ble_eq_true rfl) ?_
  intro p e s m below meth c A ls hx hb hout hlocks hml hts hown hA hP hK hD hZ hl
  have hS : va_S A s.heap s.heap [] := va_S.rf
  have hl : lv_has ls 7 [(0, .ref (ad 0)), (1, .int th), (2, .int av), (3, .int to)] := hl
  refine lv_aload_n hx hb dX2_lock_0 rfl (lv_at hl 0 rfl) ?_
  refine lv_iload_n hx hb dX2_lock_1 rfl (lv_at hl 1 rfl) ?_
  exact fk_xcallV (As := [.int th]) (rest := []) ⟨hx, hb, hml, hown, hts⟩ (kx_taskOf l D ad cI cT cJ X S hst th h) (cwV 1 hts gX2_lock_X2_taskOf rfl rfl rfl (by decide +kernel) ⟨Nat.le_of_ble_eq_true rfl, Nat.le_of_ble_eq_true rfl⟩) (fk_rvK hK hP) hK hP hD hS hA hZ rfl hl.1 rfl (Nat.le_of_ble_eq_true rfl) dX2_lock_2 ⟨Nat.le_of_ble_eq_true rfl, Nat.le_of_ble_eq_true rfl⟩ (fk_thru hout hlocks hK hD)

set_option maxHeartbeats 4000000 in
set_option maxRecDepth 100000 in
theorem kx_lock_2 (l : Launch) (D : va_G) (ad : Nat → Nat) (cI cT cJ : ClassId) (X : va_W) (S : fk_S) (hst : l.stackTraces = false) (t : Nat) (ht : t < 8) (av : Int32) (to : Int32) (h : fk_isA av = false) : fk_X l D (fk_ty cI cT cJ) yX2_lock wsX2_lock rx_pub [.ref (ad 0), .int (nI t), .int av, .int to] (fk_kW ad cI cT S ++ X) "java/lang/IndexOutOfBoundsException" := by
  refine fk_X_of (cc := cX2_lock) (maxL := 7) (ret := (some .int)) (own := RX2) (by decide) rfl rfl (Nat.le_of_ble_eq_true rfl) ?_
  intro p e s m below meth c A ls hx hb hout hlocks hml hts hown hA hP hK hD hZ hl
  have hS : va_S A s.heap s.heap [] := va_S.rf
  have hl : lv_has ls 7 [(0, .ref (ad 0)), (1, .int (nI t)), (2, .int av), (3, .int to)] := hl
  refine lv_aload_n hx hb dX2_lock_0 rfl (lv_at hl 0 rfl) ?_
  refine lv_iload_n hx hb dX2_lock_1 rfl (lv_at hl 1 rfl) ?_
  refine fk_callV (As := [.int (nI t)]) (rest := []) ⟨hx, hb, hml, hown, hts⟩ (kc_taskOf l D ad cI cT cJ X S t ht) (cwV 1 hts gX2_lock_X2_taskOf rfl rfl rfl (by decide +kernel) ⟨Nat.le_of_ble_eq_true rfl, Nat.le_of_ble_eq_true rfl⟩) (fk_rvK hK hP) hK hP hD hS hA rfl hl.1 rfl (Nat.le_of_ble_eq_true rfl) dX2_lock_2 ⟨Nat.le_of_ble_eq_true rfl, Nat.le_of_ble_eq_true rfl⟩ (fun H locs hP hD hS => ?_)
  refine W.eq (g2 := F0 m 5 ls [.ref (ad (3 + t))]) rfl ?_
  refine lv_astore (lv' := [(4, .ref (ad (3 + t))), (0, .ref (ad 0)), (1, .int (nI t)), (2, .int av), (3, .int to)]) hx hb dX2_lock_5 hl (by decide) rfl (fun ls hl => ?_)
  refine lv_iload_n hx hb dX2_lock_7 rfl (lv_at hl 3 rfl) ?_
  exact fk_xcallS (As := [.int av]) (rest := []) ⟨hx, hb, hml, hown, hts⟩ (kx_requireAddress l D ad cI cT cJ X S hst av h) (va_cwS 1 hts gX2_lock_X2_requireAddress rfl rfl rfl (by decide +kernel) ⟨Nat.le_of_ble_eq_true rfl, Nat.le_of_ble_eq_true rfl⟩) hK hP hD hS hA hZ rfl hl.1 rfl (Nat.le_of_ble_eq_true rfl) dX2_lock_8 ⟨Nat.le_of_ble_eq_true rfl, Nat.le_of_ble_eq_true rfl⟩ (fk_thru hout hlocks hK hD)

set_option maxHeartbeats 4000000 in
set_option maxRecDepth 100000 in
theorem kx_lock_3 (l : Launch) (D : va_G) (ad : Nat → Nat) (cI cT cJ : ClassId) (X : va_W) (S : fk_S) (hst : l.stackTraces = false) (t : Nat) (ht : t < 8) (a : Nat) (ha : a < 16) (to : Int32)  (h : fk_btw to 0 10000 = false) : fk_X l D (fk_ty cI cT cJ) yX2_lock wsX2_lock rx_pub [.ref (ad 0), .int (nI t), .int (nI a), .int to] (fk_kW ad cI cT S ++ X) "java/lang/IllegalArgumentException" := by
  refine fk_X_of (cc := cX2_lock) (maxL := 7) (ret := (some .int)) (own := RX2) (by decide) rfl rfl (Nat.le_of_ble_eq_true rfl) ?_
  intro p e s m below meth c A ls hx hb hout hlocks hml hts hown hA hP hK hD hZ hl
  have hS : va_S A s.heap s.heap [] := va_S.rf
  have hl : lv_has ls 7 [(0, .ref (ad 0)), (1, .int (nI t)), (2, .int (nI a)), (3, .int to)] := hl
  refine lv_aload_n hx hb dX2_lock_0 rfl (lv_at hl 0 rfl) ?_
  refine lv_iload_n hx hb dX2_lock_1 rfl (lv_at hl 1 rfl) ?_
  refine fk_callV (As := [.int (nI t)]) (rest := []) ⟨hx, hb, hml, hown, hts⟩ (kc_taskOf l D ad cI cT cJ X S t ht) (cwV 1 hts gX2_lock_X2_taskOf rfl rfl rfl (by decide +kernel) ⟨Nat.le_of_ble_eq_true rfl, Nat.le_of_ble_eq_true rfl⟩) (fk_rvK hK hP) hK hP hD hS hA rfl hl.1 rfl (Nat.le_of_ble_eq_true rfl) dX2_lock_2 ⟨Nat.le_of_ble_eq_true rfl, Nat.le_of_ble_eq_true rfl⟩ (fun H locs hP hD hS => ?_)
  refine W.eq (g2 := F0 m 5 ls [.ref (ad (3 + t))]) rfl ?_
  refine lv_astore (lv' := [(4, .ref (ad (3 + t))), (0, .ref (ad 0)), (1, .int (nI t)), (2, .int (nI a)), (3, .int to)]) hx hb dX2_lock_5 hl (by decide) rfl (fun ls hl => ?_)
  refine lv_iload_n hx hb dX2_lock_7 rfl (lv_at hl 3 rfl) ?_
  refine fk_callS (As := [.int (nI a)]) (rest := []) ⟨hx, hb, hml, hown, hts⟩ (kc_requireAddress l D ad cI cT cJ X S a (by omega)) (va_cwS 1 hts gX2_lock_X2_requireAddress rfl rfl rfl (by decide +kernel) ⟨Nat.le_of_ble_eq_true rfl, Nat.le_of_ble_eq_true rfl⟩) hK hP hD hS hA rfl hl.1 rfl (Nat.le_of_ble_eq_true rfl) dX2_lock_8 ⟨Nat.le_of_ble_eq_true rfl, Nat.le_of_ble_eq_true rfl⟩ (fun H locs hP hD hS => ?_)
  refine W.eq (g2 := F0 m 11 ls []) rfl ?_
  refine lv_iload_n hx hb dX2_lock_11 rfl (lv_at hl 4 rfl) ?_
  refine lv_iconst (v := 0) hx hb dX2_lock_12 (by decide) ?_
  refine lv_sipush (v := 10000) hx hb dX2_lock_13 (by decide) ?_
  exact fk_xcallS (As := [.int to, .int 0, .int 10000]) (rest := []) ⟨hx, hb, hml, hown, hts⟩ (kx_requireBetween l D ad cI cT cJ X S hst to 0 10000 h) (va_cwS 3 hts gX2_lock_X2_requireBetween rfl rfl rfl (by decide +kernel) ⟨Nat.le_of_ble_eq_true rfl, Nat.le_of_ble_eq_true rfl⟩) hK hP hD hS hA hZ rfl hl.1 rfl (Nat.le_of_ble_eq_true rfl) dX2_lock_16 ⟨Nat.le_of_ble_eq_true rfl, Nat.le_of_ble_eq_true rfl⟩ (fk_thru hout hlocks hK hD)

set_option maxHeartbeats 4000000 in
set_option maxRecDepth 100000 in
theorem kx_lock_4 (l : Launch) (D : va_G) (ad : Nat → Nat) (cI cT cJ : ClassId) (X : va_W) (S : fk_S) (hst : l.stackTraces = false) (t : Nat) (ht : t < 8) (a : Nat) (ha : a < 16) (to : Int32)  (hm0 : fk_btw to 0 10000 = true) (h : ¬ S 1 t = 0) : fk_X l D (fk_ty cI cT cJ) yX2_lock wsX2_lock rx_pub [.ref (ad 0), .int (nI t), .int (nI a), .int to] (fk_kW ad cI cT S ++ X) "java/lang/IllegalStateException" := by
  refine fk_X_of (cc := cX2_lock) (maxL := 7) (ret := (some .int)) (own := RX2) (by decide) rfl rfl (Nat.le_of_ble_eq_true rfl) ?_
  intro p e s m below meth c A ls hx hb hout hlocks hml hts hown hA hP hK hD hZ hl
  have hS : va_S A s.heap s.heap [] := va_S.rf
  have hl : lv_has ls 7 [(0, .ref (ad 0)), (1, .int (nI t)), (2, .int (nI a)), (3, .int to)] := hl
  refine lv_aload_n hx hb dX2_lock_0 rfl (lv_at hl 0 rfl) ?_
  refine lv_iload_n hx hb dX2_lock_1 rfl (lv_at hl 1 rfl) ?_
  refine fk_callV (As := [.int (nI t)]) (rest := []) ⟨hx, hb, hml, hown, hts⟩ (kc_taskOf l D ad cI cT cJ X S t ht) (cwV 1 hts gX2_lock_X2_taskOf rfl rfl rfl (by decide +kernel) ⟨Nat.le_of_ble_eq_true rfl, Nat.le_of_ble_eq_true rfl⟩) (fk_rvK hK hP) hK hP hD hS hA rfl hl.1 rfl (Nat.le_of_ble_eq_true rfl) dX2_lock_2 ⟨Nat.le_of_ble_eq_true rfl, Nat.le_of_ble_eq_true rfl⟩ (fun H locs hP hD hS => ?_)
  refine W.eq (g2 := F0 m 5 ls [.ref (ad (3 + t))]) rfl ?_
  refine lv_astore (lv' := [(4, .ref (ad (3 + t))), (0, .ref (ad 0)), (1, .int (nI t)), (2, .int (nI a)), (3, .int to)]) hx hb dX2_lock_5 hl (by decide) rfl (fun ls hl => ?_)
  refine lv_iload_n hx hb dX2_lock_7 rfl (lv_at hl 3 rfl) ?_
  refine fk_callS (As := [.int (nI a)]) (rest := []) ⟨hx, hb, hml, hown, hts⟩ (kc_requireAddress l D ad cI cT cJ X S a (by omega)) (va_cwS 1 hts gX2_lock_X2_requireAddress rfl rfl rfl (by decide +kernel) ⟨Nat.le_of_ble_eq_true rfl, Nat.le_of_ble_eq_true rfl⟩) hK hP hD hS hA rfl hl.1 rfl (Nat.le_of_ble_eq_true rfl) dX2_lock_8 ⟨Nat.le_of_ble_eq_true rfl, Nat.le_of_ble_eq_true rfl⟩ (fun H locs hP hD hS => ?_)
  refine W.eq (g2 := F0 m 11 ls []) rfl ?_
  refine lv_iload_n hx hb dX2_lock_11 rfl (lv_at hl 4 rfl) ?_
  refine lv_iconst (v := 0) hx hb dX2_lock_12 (by decide) ?_
  refine lv_sipush (v := 10000) hx hb dX2_lock_13 (by decide) ?_
  refine fk_callS (As := [.int to, .int 0, .int 10000]) (rest := []) ⟨hx, hb, hml, hown, hts⟩ (kc_requireBetween l D ad cI cT cJ X S to 0 10000 hm0) (va_cwS 3 hts gX2_lock_X2_requireBetween rfl rfl rfl (by decide +kernel) ⟨Nat.le_of_ble_eq_true rfl, Nat.le_of_ble_eq_true rfl⟩) hK hP hD hS hA rfl hl.1 rfl (Nat.le_of_ble_eq_true rfl) dX2_lock_16 ⟨Nat.le_of_ble_eq_true rfl, Nat.le_of_ble_eq_true rfl⟩ (fun H locs hP hD hS => ?_)
  refine W.eq (g2 := F0 m 19 ls []) rfl ?_
  refine lv_aload hx hb dX2_lock_19 (lv_at hl 0 rfl) ?_
  exact fk_xcallS (As := [.ref (ad (3 + t))]) (rest := []) ⟨hx, hb, hml, hown, hts⟩ (kx_requireRunning l D ad cI cT cJ X S hst t ht h) (va_cwS 1 hts gX2_lock_X2_requireRunning rfl rfl rfl (by decide +kernel) ⟨Nat.le_of_ble_eq_true rfl, Nat.le_of_ble_eq_true rfl⟩) hK hP hD hS hA hZ rfl hl.1 rfl (Nat.le_of_ble_eq_true rfl) dX2_lock_21 ⟨Nat.le_of_ble_eq_true rfl, Nat.le_of_ble_eq_true rfl⟩ (fk_thru hout hlocks hK hD)

abbrev rmX2_lock : Room := { frames := 4, cells := 0, slots := 0, locals := 95 }
set_option maxHeartbeats 4000000 in
set_option maxRecDepth 100000 in
theorem kc_lock (l : Launch) (D : va_G) (ad : Nat → Nat) (cI cT cJ : ClassId) (X : va_W) (S : fk_S) (t : Nat) (ht : t < 8) (a : Nat) (ha : a < 16) (to : Int32) (hr0 : S 1 t = 0)  (hm0 : fk_btw to 0 10000 = true) (hsz : fk_sz S) : fk_C l D (fk_ty cI cT cJ) yX2_lock wsX2_lock rmX2_lock [.ref (ad 0), .int (nI t), .int (nI a), .int to] (fk_kW ad cI cT S ++ X) (some (.int (kk_lockR S t a))) (fk_kW ad cI cT (kk_lock S t a to) ++ X) := by
  refine fk_C_of (cc := cX2_lock) (maxL := 7) (ret := (some .int)) (own := RX2) (by decide) rfl rfl (Nat.le_of_ble_eq_true rfl) ?_
  intro p e s m below meth c A ls hx hb hr hlocks hml hts hown hA hP hK hD hl
  have hS : va_S A s.heap s.heap [] := va_S.rf
  have hl : lv_has ls 7 [(0, .ref (ad 0)), (1, .int (nI t)), (2, .int (nI a)), (3, .int to)] := hl
  have hiX1 : ∀ w ∈ u_ws RX1 TX1 11, w ∈ wsX2_lock := by decide +kernel
  have hiX2 : ∀ w ∈ u_ws RX2 TX2 6, w ∈ wsX2_lock := by decide +kernel
  refine lv_aload_n hx hb dX2_lock_0 rfl (lv_at hl 0 rfl) ?_
  refine lv_iload_n hx hb dX2_lock_1 rfl (lv_at hl 1 rfl) ?_
  refine fk_callV (As := [.int (nI t)]) (rest := []) ⟨hx, hb, hml, hown, hts⟩ (kc_taskOf l D ad cI cT cJ X S t ht) (cwV 1 hts gX2_lock_X2_taskOf rfl rfl rfl (by decide +kernel) ⟨Nat.le_of_ble_eq_true rfl, Nat.le_of_ble_eq_true rfl⟩) (fk_rvK hK hP) hK hP hD hS hA rfl hl.1 rfl (Nat.le_of_ble_eq_true rfl) dX2_lock_2 ⟨Nat.le_of_ble_eq_true rfl, Nat.le_of_ble_eq_true rfl⟩ (fun H locs hP hD hS => ?_)
  refine W.eq (g2 := F0 m 5 ls [.ref (ad (3 + t))]) rfl ?_
  refine lv_astore (lv' := [(4, .ref (ad (3 + t))), (0, .ref (ad 0)), (1, .int (nI t)), (2, .int (nI a)), (3, .int to)]) hx hb dX2_lock_5 hl (by decide) rfl (fun ls hl => ?_)
  refine lv_iload_n hx hb dX2_lock_7 rfl (lv_at hl 3 rfl) ?_
  refine fk_callS (As := [.int (nI a)]) (rest := []) ⟨hx, hb, hml, hown, hts⟩ (kc_requireAddress l D ad cI cT cJ X S a (by omega)) (va_cwS 1 hts gX2_lock_X2_requireAddress rfl rfl rfl (by decide +kernel) ⟨Nat.le_of_ble_eq_true rfl, Nat.le_of_ble_eq_true rfl⟩) hK hP hD hS hA rfl hl.1 rfl (Nat.le_of_ble_eq_true rfl) dX2_lock_8 ⟨Nat.le_of_ble_eq_true rfl, Nat.le_of_ble_eq_true rfl⟩ (fun H locs hP hD hS => ?_)
  refine W.eq (g2 := F0 m 11 ls []) rfl ?_
  refine lv_iload_n hx hb dX2_lock_11 rfl (lv_at hl 4 rfl) ?_
  refine lv_iconst (v := 0) hx hb dX2_lock_12 (by decide) ?_
  refine lv_sipush (v := 10000) hx hb dX2_lock_13 (by decide) ?_
  refine fk_callS (As := [.int to, .int 0, .int 10000]) (rest := []) ⟨hx, hb, hml, hown, hts⟩ (kc_requireBetween l D ad cI cT cJ X S to 0 10000 hm0) (va_cwS 3 hts gX2_lock_X2_requireBetween rfl rfl rfl (by decide +kernel) ⟨Nat.le_of_ble_eq_true rfl, Nat.le_of_ble_eq_true rfl⟩) hK hP hD hS hA rfl hl.1 rfl (Nat.le_of_ble_eq_true rfl) dX2_lock_16 ⟨Nat.le_of_ble_eq_true rfl, Nat.le_of_ble_eq_true rfl⟩ (fun H locs hP hD hS => ?_)
  refine W.eq (g2 := F0 m 19 ls []) rfl ?_
  refine lv_aload hx hb dX2_lock_19 (lv_at hl 0 rfl) ?_
  refine fk_callS (As := [.ref (ad (3 + t))]) (rest := []) ⟨hx, hb, hml, hown, hts⟩ (kc_requireRunning l D ad cI cT cJ X S t ht hr0) (va_cwS 1 hts gX2_lock_X2_requireRunning rfl rfl rfl (by decide +kernel) ⟨Nat.le_of_ble_eq_true rfl, Nat.le_of_ble_eq_true rfl⟩) hK hP hD hS hA rfl hl.1 rfl (Nat.le_of_ble_eq_true rfl) dX2_lock_21 ⟨Nat.le_of_ble_eq_true rfl, Nat.le_of_ble_eq_true rfl⟩ (fun H locs hP hD hS => ?_)
  refine W.eq (g2 := F0 m 24 ls []) rfl ?_
  refine lv_aload_n hx hb dX2_lock_24 rfl (lv_at hl 1 rfl) ?_
  refine fk_getK hx hb hts hiX2 hown hK hP 0 (by decide) (v := .ref (ad 1)) rfl (List.mem_of_getElem? (i := 1) rfl) rfl dX2_lock_25 ?_
  refine lv_iload_n hx hb dX2_lock_28 rfl (lv_at hl 3 rfl) ?_
  refine fk_ldW hx hb hK hP (vp_in_nI (show a < 16 from (by omega)) (by decide)) dX2_lock_29 ?_
  refine W.eq (g2 := F0 m 30 ls [.int (S 0 a)]) (by rw [nI_clamp (by omega)]) ?_
  refine lv_istore (lv' := [(5, .int (S 0 a)), (4, .ref (ad (3 + t))), (0, .ref (ad 0)), (1, .int (nI t)), (2, .int (nI a)), (3, .int to)]) hx hb dX2_lock_30 hl (by decide) rfl (fun ls hl => ?_)
  refine lv_iload hx hb dX2_lock_32 (lv_at hl 0 rfl) ?_
  refine lv_sipush (v := 255) hx hb dX2_lock_34 (by decide) ?_
  refine lv_iand hx hb dX2_lock_37 ?_
  refine lv_if_ne (tgt := 67) hx hb dX2_lock_38 (by decide) (fun c_1 => ?_) (fun c_1 => ?_)
  · refine lv_aload_n hx hb dX2_lock_67 rfl (lv_at hl 2 rfl) ?_
    refine lv_iload_n hx hb dX2_lock_68 rfl (lv_at hl 4 rfl) ?_
    refine fk_callV (As := [.int (nI a)]) (rest := []) ⟨hx, hb, hml, hown, hts⟩ (kc_ownerAt l D ad cI cT cJ X S (nI a)) (cwV 1 hts gX2_lock_X2_ownerAt rfl rfl rfl (by decide +kernel) ⟨Nat.le_of_ble_eq_true rfl, Nat.le_of_ble_eq_true rfl⟩) (fk_rvK hK hP) hK hP hD hS hA rfl hl.1 rfl (Nat.le_of_ble_eq_true rfl) dX2_lock_69 ⟨Nat.le_of_ble_eq_true rfl, Nat.le_of_ble_eq_true rfl⟩ (fun H locs hP hD hS => ?_)
    rcases o_2 : kk_owner S (nI a) with _ | u3
    · refine W.eq (g2 := F0 m 72 ls [.null]) (by first | rfl | (rw [o_2]; rfl)) ?_
      refine lv_astoreN (lv' := [(6, .null), (5, .int (S 0 a)), (4, .ref (ad (3 + t))), (0, .ref (ad 0)), (1, .int (nI t)), (2, .int (nI a)), (3, .int to)]) hx hb dX2_lock_72 hl (by decide) rfl (fun ls hl => ?_)
      refine lv_aloadN hx hb dX2_lock_74 (lv_at hl 0 rfl) ?_
      refine lv_ifnullN (tgt := 88) hx hb dX2_lock_76 (by decide) ?_
      refine lv_iconst (v := 4) hx hb dX2_lock_88 (by decide) ?_
      exact fk_iret hx hb hr hlocks hP hK hD hS (congrArg (fun z => fk_kW ad cI cT z ++ X) (by first | rfl | simp [kk_lock, c_1, o_2])) (by first | rfl | simp [kk_lockR, c_1, o_2]) dX2_lock_89
    · have hu_4 : u3 < 8 := kk_owner_lt o_2
      refine W.eq (g2 := F0 m 72 ls [.ref (ad (3 + u3))]) (by first | rfl | (rw [o_2]; rfl)) ?_
      refine lv_astore (lv' := [(6, .ref (ad (3 + u3))), (5, .int (S 0 a)), (4, .ref (ad (3 + t))), (0, .ref (ad 0)), (1, .int (nI t)), (2, .int (nI a)), (3, .int to)]) hx hb dX2_lock_72 hl (by decide) rfl (fun ls hl => ?_)
      refine lv_aload hx hb dX2_lock_74 (lv_at hl 0 rfl) ?_
      refine lv_ifnull hx hb dX2_lock_76 ?_
      refine lv_aload hx hb dX2_lock_79 (lv_at hl 0 rfl) ?_
      refine fk_getT hx hb hts hiX1 hown hK hP hu_4 2 (by decide) (v := .int (S 1 u3)) rfl (List.mem_of_getElem? (i := 3) rfl) rfl dX2_lock_81 ?_
      refine lv_iconst (v := 3) hx hb dX2_lock_84 (by decide) ?_
      refine lv_icmp_ne (tgt := 90) hx hb dX2_lock_85 (by decide) (fun c_5 => ?_) (fun c_5 => ?_)
      · refine lv_aload hx hb dX2_lock_90 (lv_at hl 0 rfl) ?_
        refine lv_aload hx hb dX2_lock_92 (lv_at hl 2 rfl) ?_
        refine lv_acmp_eq (rx := (some (ad (3 + u3)))) (ry := (some (ad (3 + t)))) (tgt := 108) hx hb dX2_lock_94 (by decide) (fun c_6 => ?_) (fun c_6 => ?_)
        · have e_7 : u3 = t := fk_adT hD hu_4 ht c_6
          refine lv_iconst (v := 3) hx hb dX2_lock_108 (by decide) ?_
          exact fk_iret hx hb hr hlocks hP hK hD hS (congrArg (fun z => fk_kW ad cI cT z ++ X) (by subst e_7; first | rfl | simp [kk_lock, c_1, o_2, c_5, c_6])) (by subst e_7; first | rfl | simp [kk_lockR, c_1, o_2, c_5, c_6]) dX2_lock_109
        · have f_8 : ¬ u3 = t := fun h9 => c_6 (by rw [h9])
          refine lv_aload_n hx hb dX2_lock_97 rfl (lv_at hl 3 rfl) ?_
          refine lv_aload hx hb dX2_lock_98 (lv_at hl 0 rfl) ?_
          refine lv_aload hx hb dX2_lock_100 (lv_at hl 2 rfl) ?_
          refine fk_callV (As := [.ref (ad (3 + u3)), .ref (ad (3 + t))]) (rest := []) ⟨hx, hb, hml, hown, hts⟩ (kc_isHeldUpBy l D ad cI cT cJ X S u3 t hu_4 ht) (cwV 2 hts gX2_lock_X2_isHeldUpBy rfl rfl rfl (by decide +kernel) ⟨Nat.le_of_ble_eq_true rfl, Nat.le_of_ble_eq_true rfl⟩) (fk_rvK hK hP) hK hP hD hS hA rfl hl.1 rfl (Nat.le_of_ble_eq_true rfl) dX2_lock_102 ⟨Nat.le_of_ble_eq_true rfl, Nat.le_of_ble_eq_true rfl⟩ (fun H locs hP hD hS => ?_)
          cases b_9 : kk_held S t 8 (some u3) with
          | true =>
            refine W.eq (g2 := F0 m 105 ls [.int 1]) (by first | rfl | (rw [b_9]; rfl)) ?_
            refine lv_if_eq (tgt := 110) hx hb dX2_lock_105 (by decide) (fun c => absurd c (by decide)) (fun _ => ?_)
            refine lv_iconst (v := 3) hx hb dX2_lock_108 (by decide) ?_
            exact fk_iret hx hb hr hlocks hP hK hD hS (congrArg (fun z => fk_kW ad cI cT z ++ X) (by first | rfl | simp [kk_lock, c_1, o_2, c_5, c_6, f_8, b_9])) (by first | rfl | simp [kk_lockR, c_1, o_2, c_5, c_6, f_8, b_9]) dX2_lock_109
          | false =>
            refine W.eq (g2 := F0 m 105 ls [.int 0]) (by first | rfl | (rw [b_9]; rfl)) ?_
            refine lv_if_eq (tgt := 110) hx hb dX2_lock_105 (by decide) (fun _ => ?_) (fun c => absurd c (by decide))
            refine lv_aload_n hx hb dX2_lock_110 rfl (lv_at hl 3 rfl) ?_
            refine fk_getK hx hb hts hiX2 hown hK hP 0 (by decide) (v := .ref (ad 1)) rfl (List.mem_of_getElem? (i := 1) rfl) rfl dX2_lock_111 ?_
            refine lv_iload_n hx hb dX2_lock_114 rfl (lv_at hl 5 rfl) ?_
            refine lv_iload hx hb dX2_lock_115 (lv_at hl 1 rfl) ?_
            refine lv_ldc (own := RX2) (v := (-2147483648)) hx hb hown (hts (.constant RX2 83 (-2147483648)) (List.mem_of_getElem? (i := 4) rfl)) dX2_lock_117 ?_
            refine lv_ior hx hb dX2_lock_119 ?_
            refine fk_stW hx hb hK hP hD hS (vp_in_nI (show a < 16 from (by omega)) (by decide)) dX2_lock_120 (fun H locs hP hD hS => ?_)
            rw [show ((nI a)).toNatClampNeg = a from nI_clamp (n := a) (by omega)] at hP hD
            refine lv_aload_n hx hb dX2_lock_121 rfl (lv_at hl 3 rfl) ?_
            refine lv_aload hx hb dX2_lock_122 (lv_at hl 2 rfl) ?_
            refine lv_iconst (v := 2) hx hb dX2_lock_124 (by decide) ?_
            refine lv_iload_n hx hb dX2_lock_125 rfl (lv_at hl 5 rfl) ?_
            refine lv_sipush (v := 255) hx hb dX2_lock_126 (by decide) ?_
            refine lv_iload_n hx hb dX2_lock_129 rfl (lv_at hl 6 rfl) ?_
            refine fk_callV (As := [.ref (ad (3 + t)), .int 2, .int (nI a), .int 255, .int to]) (rest := []) ⟨hx, hb, hml, hown, hts⟩ (kc_beginWait l D ad cI cT cJ X (fk_up S 0 a ((S 0 a) ||| (-2147483648))) t 2 (nI a) 255 to ht) (cwV 5 hts gX2_lock_X2_beginWait rfl rfl rfl (by decide +kernel) ⟨Nat.le_of_ble_eq_true rfl, Nat.le_of_ble_eq_true rfl⟩) (fk_rvK hK hP) hK hP hD hS hA rfl hl.1 rfl (Nat.le_of_ble_eq_true rfl) dX2_lock_130 ⟨Nat.le_of_ble_eq_true rfl, Nat.le_of_ble_eq_true rfl⟩ (fun H locs hP hD hS => ?_)
            refine W.eq (g2 := F0 m 133 ls []) rfl ?_
            refine lv_iconst (v := 2) hx hb dX2_lock_133 (by decide) ?_
            exact fk_iret hx hb hr hlocks hP hK hD hS (congrArg (fun z => fk_kW ad cI cT z ++ X) (by first | rfl | simp [kk_lock, c_1, o_2, c_5, c_6, f_8, b_9])) (by first | rfl | simp [kk_lockR, c_1, o_2, c_5, c_6, f_8, b_9]) dX2_lock_134
      · refine lv_iconst (v := 4) hx hb dX2_lock_88 (by decide) ?_
        exact fk_iret hx hb hr hlocks hP hK hD hS (congrArg (fun z => fk_kW ad cI cT z ++ X) (by first | rfl | simp [kk_lock, c_1, o_2, c_5])) (by first | rfl | simp [kk_lockR, c_1, o_2, c_5]) dX2_lock_89
  · refine lv_aload_n hx hb dX2_lock_41 rfl (lv_at hl 2 rfl) ?_
    refine lv_aload hx hb dX2_lock_42 (lv_at hl 1 rfl) ?_
    refine lv_iload_n hx hb dX2_lock_44 rfl (lv_at hl 4 rfl) ?_
    refine lv_iload hx hb dX2_lock_45 (lv_at hl 0 rfl) ?_
    refine lv_ldc (own := RX2) (v := 1073741824) hx hb hown (hts (.constant RX2 68 (1073741824)) (List.mem_of_getElem? (i := 2) rfl)) dX2_lock_47 ?_
    refine lv_iand hx hb dX2_lock_49 ?_
    refine fk_callV (As := [.ref (ad (3 + t)), .int (nI a), .int ((S 0 a) &&& 1073741824)]) (rest := []) ⟨hx, hb, hml, hown, hts⟩ (kc_giveLock l D ad cI cT cJ X S t (nI a) ((S 0 a) &&& 1073741824) ht hsz) (cwV 3 hts gX2_lock_X2_giveLock rfl rfl rfl (by decide +kernel) ⟨Nat.le_of_ble_eq_true rfl, Nat.le_of_ble_eq_true rfl⟩) (fk_rvK hK hP) hK hP hD hS hA rfl hl.1 rfl (Nat.le_of_ble_eq_true rfl) dX2_lock_50 ⟨Nat.le_of_ble_eq_true rfl, Nat.le_of_ble_eq_true rfl⟩ (fun H locs hP hD hS => ?_)
    refine W.eq (g2 := F0 m 53 ls []) rfl ?_
    refine lv_iload hx hb dX2_lock_53 (lv_at hl 0 rfl) ?_
    refine lv_ldc (own := RX2) (v := 1073741824) hx hb hown (hts (.constant RX2 68 (1073741824)) (List.mem_of_getElem? (i := 2) rfl)) dX2_lock_55 ?_
    refine lv_iand hx hb dX2_lock_57 ?_
    refine lv_if_ne (tgt := 65) hx hb dX2_lock_58 (by decide) (fun c_12 => ?_) (fun c_12 => ?_)
    · refine lv_iconst (v := 1) hx hb dX2_lock_65 (by decide) ?_
      exact fk_iret hx hb hr hlocks hP hK hD hS (congrArg (fun z => fk_kW ad cI cT z ++ X) (by first | rfl | simp [kk_lock, c_1, c_12])) (by first | rfl | simp [kk_lockR, c_1, c_12]) dX2_lock_66
    · refine lv_iconst (v := 0) hx hb dX2_lock_61 (by decide) ?_
      refine lv_goto (tgt := 66) hx hb dX2_lock_62 (by decide) ?_
      exact fk_iret hx hb hr hlocks hP hK hD hS (congrArg (fun z => fk_kW ad cI cT z ++ X) (by first | rfl | simp [kk_lock, c_1, c_12])) (by first | rfl | simp [kk_lockR, c_1, c_12]) dX2_lock_66

set_option maxHeartbeats 4000000 in
set_option maxRecDepth 100000 in
theorem kx_unlock_1 (l : Launch) (D : va_G) (ad : Nat → Nat) (cI cT cJ : ClassId) (X : va_W) (S : fk_S) (hst : l.stackTraces = false) (th av : Int32) (h : fk_isT th = false) : fk_X l D (fk_ty cI cT cJ) yX2_unlock wsX2_unlock rx_pub [.ref (ad 0), .int th, .int av] (fk_kW ad cI cT S ++ X) "java/lang/IndexOutOfBoundsException" := by
  refine fk_X_of (cc := cX2_unlock) (maxL := 4) (ret := (some .int)) (own := RX2) (by decide) rfl rfl (Nat.le_of_ble_eq_true rfl) ?_
  intro p e s m below meth c A ls hx hb hout hlocks hml hts hown hA hP hK hD hZ hl
  have hS : va_S A s.heap s.heap [] := va_S.rf
  have hl : lv_has ls 4 [(0, .ref (ad 0)), (1, .int th), (2, .int av)] := hl
  refine lv_aload_n hx hb dX2_unlock_0 rfl (lv_at hl 0 rfl) ?_
  refine lv_iload_n hx hb dX2_unlock_1 rfl (lv_at hl 1 rfl) ?_
  exact fk_xcallV (As := [.int th]) (rest := []) ⟨hx, hb, hml, hown, hts⟩ (kx_taskOf l D ad cI cT cJ X S hst th h) (cwV 1 hts gX2_unlock_X2_taskOf rfl rfl rfl (by decide +kernel) ⟨Nat.le_of_ble_eq_true rfl, Nat.le_of_ble_eq_true rfl⟩) (fk_rvK hK hP) hK hP hD hS hA hZ rfl hl.1 rfl (Nat.le_of_ble_eq_true rfl) dX2_unlock_2 ⟨Nat.le_of_ble_eq_true rfl, Nat.le_of_ble_eq_true rfl⟩ (fk_thru hout hlocks hK hD)

set_option maxHeartbeats 4000000 in
set_option maxRecDepth 100000 in
theorem kx_unlock_2 (l : Launch) (D : va_G) (ad : Nat → Nat) (cI cT cJ : ClassId) (X : va_W) (S : fk_S) (hst : l.stackTraces = false) (t : Nat) (ht : t < 8) (av : Int32) (h : fk_isA av = false) : fk_X l D (fk_ty cI cT cJ) yX2_unlock wsX2_unlock rx_pub [.ref (ad 0), .int (nI t), .int av] (fk_kW ad cI cT S ++ X) "java/lang/IndexOutOfBoundsException" := by
  refine fk_X_of (cc := cX2_unlock) (maxL := 4) (ret := (some .int)) (own := RX2) (by decide) rfl rfl (Nat.le_of_ble_eq_true rfl) ?_
  intro p e s m below meth c A ls hx hb hout hlocks hml hts hown hA hP hK hD hZ hl
  have hS : va_S A s.heap s.heap [] := va_S.rf
  have hl : lv_has ls 4 [(0, .ref (ad 0)), (1, .int (nI t)), (2, .int av)] := hl
  refine lv_aload_n hx hb dX2_unlock_0 rfl (lv_at hl 0 rfl) ?_
  refine lv_iload_n hx hb dX2_unlock_1 rfl (lv_at hl 1 rfl) ?_
  refine fk_callV (As := [.int (nI t)]) (rest := []) ⟨hx, hb, hml, hown, hts⟩ (kc_taskOf l D ad cI cT cJ X S t ht) (cwV 1 hts gX2_unlock_X2_taskOf rfl rfl rfl (by decide +kernel) ⟨Nat.le_of_ble_eq_true rfl, Nat.le_of_ble_eq_true rfl⟩) (fk_rvK hK hP) hK hP hD hS hA rfl hl.1 rfl (Nat.le_of_ble_eq_true rfl) dX2_unlock_2 ⟨Nat.le_of_ble_eq_true rfl, Nat.le_of_ble_eq_true rfl⟩ (fun H locs hP hD hS => ?_)
  refine W.eq (g2 := F0 m 5 ls [.ref (ad (3 + t))]) rfl ?_
  refine lv_astore_n (lv' := [(3, .ref (ad (3 + t))), (0, .ref (ad 0)), (1, .int (nI t)), (2, .int av)]) hx hb dX2_unlock_5 rfl hl (by decide) rfl (fun ls hl => ?_)
  refine lv_iload_n hx hb dX2_unlock_6 rfl (lv_at hl 3 rfl) ?_
  exact fk_xcallS (As := [.int av]) (rest := []) ⟨hx, hb, hml, hown, hts⟩ (kx_requireAddress l D ad cI cT cJ X S hst av h) (va_cwS 1 hts gX2_unlock_X2_requireAddress rfl rfl rfl (by decide +kernel) ⟨Nat.le_of_ble_eq_true rfl, Nat.le_of_ble_eq_true rfl⟩) hK hP hD hS hA hZ rfl hl.1 rfl (Nat.le_of_ble_eq_true rfl) dX2_unlock_7 ⟨Nat.le_of_ble_eq_true rfl, Nat.le_of_ble_eq_true rfl⟩ (fk_thru hout hlocks hK hD)

set_option maxHeartbeats 4000000 in
set_option maxRecDepth 100000 in
theorem kx_unlock_3 (l : Launch) (D : va_G) (ad : Nat → Nat) (cI cT cJ : ClassId) (X : va_W) (S : fk_S) (hst : l.stackTraces = false) (t : Nat) (ht : t < 8) (a : Nat) (ha : a < 16) (h : ¬ S 1 t = 0) : fk_X l D (fk_ty cI cT cJ) yX2_unlock wsX2_unlock rx_pub [.ref (ad 0), .int (nI t), .int (nI a)] (fk_kW ad cI cT S ++ X) "java/lang/IllegalStateException" := by
  refine fk_X_of (cc := cX2_unlock) (maxL := 4) (ret := (some .int)) (own := RX2) (by decide) rfl rfl (Nat.le_of_ble_eq_true rfl) ?_
  intro p e s m below meth c A ls hx hb hout hlocks hml hts hown hA hP hK hD hZ hl
  have hS : va_S A s.heap s.heap [] := va_S.rf
  have hl : lv_has ls 4 [(0, .ref (ad 0)), (1, .int (nI t)), (2, .int (nI a))] := hl
  refine lv_aload_n hx hb dX2_unlock_0 rfl (lv_at hl 0 rfl) ?_
  refine lv_iload_n hx hb dX2_unlock_1 rfl (lv_at hl 1 rfl) ?_
  refine fk_callV (As := [.int (nI t)]) (rest := []) ⟨hx, hb, hml, hown, hts⟩ (kc_taskOf l D ad cI cT cJ X S t ht) (cwV 1 hts gX2_unlock_X2_taskOf rfl rfl rfl (by decide +kernel) ⟨Nat.le_of_ble_eq_true rfl, Nat.le_of_ble_eq_true rfl⟩) (fk_rvK hK hP) hK hP hD hS hA rfl hl.1 rfl (Nat.le_of_ble_eq_true rfl) dX2_unlock_2 ⟨Nat.le_of_ble_eq_true rfl, Nat.le_of_ble_eq_true rfl⟩ (fun H locs hP hD hS => ?_)
  refine W.eq (g2 := F0 m 5 ls [.ref (ad (3 + t))]) rfl ?_
  refine lv_astore_n (lv' := [(3, .ref (ad (3 + t))), (0, .ref (ad 0)), (1, .int (nI t)), (2, .int (nI a))]) hx hb dX2_unlock_5 rfl hl (by decide) rfl (fun ls hl => ?_)
  refine lv_iload_n hx hb dX2_unlock_6 rfl (lv_at hl 3 rfl) ?_
  refine fk_callS (As := [.int (nI a)]) (rest := []) ⟨hx, hb, hml, hown, hts⟩ (kc_requireAddress l D ad cI cT cJ X S a (by omega)) (va_cwS 1 hts gX2_unlock_X2_requireAddress rfl rfl rfl (by decide +kernel) ⟨Nat.le_of_ble_eq_true rfl, Nat.le_of_ble_eq_true rfl⟩) hK hP hD hS hA rfl hl.1 rfl (Nat.le_of_ble_eq_true rfl) dX2_unlock_7 ⟨Nat.le_of_ble_eq_true rfl, Nat.le_of_ble_eq_true rfl⟩ (fun H locs hP hD hS => ?_)
  refine W.eq (g2 := F0 m 10 ls []) rfl ?_
  refine lv_aload_n hx hb dX2_unlock_10 rfl (lv_at hl 0 rfl) ?_
  exact fk_xcallS (As := [.ref (ad (3 + t))]) (rest := []) ⟨hx, hb, hml, hown, hts⟩ (kx_requireRunning l D ad cI cT cJ X S hst t ht h) (va_cwS 1 hts gX2_unlock_X2_requireRunning rfl rfl rfl (by decide +kernel) ⟨Nat.le_of_ble_eq_true rfl, Nat.le_of_ble_eq_true rfl⟩) hK hP hD hS hA hZ rfl hl.1 rfl (Nat.le_of_ble_eq_true rfl) dX2_unlock_11 ⟨Nat.le_of_ble_eq_true rfl, Nat.le_of_ble_eq_true rfl⟩ (fk_thru hout hlocks hK hD)

set_option maxHeartbeats 4000000 in
set_option maxRecDepth 100000 in
theorem kx_unlock_4 (l : Launch) (D : va_G) (ad : Nat → Nat) (cI cT cJ : ClassId) (X : va_W) (S : fk_S) (hst : l.stackTraces = false) (t : Nat) (ht : t < 8) (a : Nat) (ha : a < 16) (hr0 : S 1 t = 0) (h : ¬ kk_owner S (nI a) = some t) : fk_X l D (fk_ty cI cT cJ) yX2_unlock wsX2_unlock rx_pub [.ref (ad 0), .int (nI t), .int (nI a)] (fk_kW ad cI cT S ++ X) "java/lang/IllegalStateException" := by
  refine fk_X_of (cc := cX2_unlock) (maxL := 4) (ret := (some .int)) (own := RX2) (by decide) rfl rfl (Nat.le_of_ble_eq_true rfl) ?_
  intro p e s m below meth c A ls hx hb hout hlocks hml hts hown hA hP hK hD hZ hl
  have hS : va_S A s.heap s.heap [] := va_S.rf
  have hl : lv_has ls 4 [(0, .ref (ad 0)), (1, .int (nI t)), (2, .int (nI a))] := hl
  refine lv_aload_n hx hb dX2_unlock_0 rfl (lv_at hl 0 rfl) ?_
  refine lv_iload_n hx hb dX2_unlock_1 rfl (lv_at hl 1 rfl) ?_
  refine fk_callV (As := [.int (nI t)]) (rest := []) ⟨hx, hb, hml, hown, hts⟩ (kc_taskOf l D ad cI cT cJ X S t ht) (cwV 1 hts gX2_unlock_X2_taskOf rfl rfl rfl (by decide +kernel) ⟨Nat.le_of_ble_eq_true rfl, Nat.le_of_ble_eq_true rfl⟩) (fk_rvK hK hP) hK hP hD hS hA rfl hl.1 rfl (Nat.le_of_ble_eq_true rfl) dX2_unlock_2 ⟨Nat.le_of_ble_eq_true rfl, Nat.le_of_ble_eq_true rfl⟩ (fun H locs hP hD hS => ?_)
  refine W.eq (g2 := F0 m 5 ls [.ref (ad (3 + t))]) rfl ?_
  refine lv_astore_n (lv' := [(3, .ref (ad (3 + t))), (0, .ref (ad 0)), (1, .int (nI t)), (2, .int (nI a))]) hx hb dX2_unlock_5 rfl hl (by decide) rfl (fun ls hl => ?_)
  refine lv_iload_n hx hb dX2_unlock_6 rfl (lv_at hl 3 rfl) ?_
  refine fk_callS (As := [.int (nI a)]) (rest := []) ⟨hx, hb, hml, hown, hts⟩ (kc_requireAddress l D ad cI cT cJ X S a (by omega)) (va_cwS 1 hts gX2_unlock_X2_requireAddress rfl rfl rfl (by decide +kernel) ⟨Nat.le_of_ble_eq_true rfl, Nat.le_of_ble_eq_true rfl⟩) hK hP hD hS hA rfl hl.1 rfl (Nat.le_of_ble_eq_true rfl) dX2_unlock_7 ⟨Nat.le_of_ble_eq_true rfl, Nat.le_of_ble_eq_true rfl⟩ (fun H locs hP hD hS => ?_)
  refine W.eq (g2 := F0 m 10 ls []) rfl ?_
  refine lv_aload_n hx hb dX2_unlock_10 rfl (lv_at hl 0 rfl) ?_
  refine fk_callS (As := [.ref (ad (3 + t))]) (rest := []) ⟨hx, hb, hml, hown, hts⟩ (kc_requireRunning l D ad cI cT cJ X S t ht hr0) (va_cwS 1 hts gX2_unlock_X2_requireRunning rfl rfl rfl (by decide +kernel) ⟨Nat.le_of_ble_eq_true rfl, Nat.le_of_ble_eq_true rfl⟩) hK hP hD hS hA rfl hl.1 rfl (Nat.le_of_ble_eq_true rfl) dX2_unlock_11 ⟨Nat.le_of_ble_eq_true rfl, Nat.le_of_ble_eq_true rfl⟩ (fun H locs hP hD hS => ?_)
  refine W.eq (g2 := F0 m 14 ls []) rfl ?_
  refine lv_aload_n hx hb dX2_unlock_14 rfl (lv_at hl 1 rfl) ?_
  refine lv_iload_n hx hb dX2_unlock_15 rfl (lv_at hl 3 rfl) ?_
  refine fk_callV (As := [.int (nI a)]) (rest := []) ⟨hx, hb, hml, hown, hts⟩ (kc_ownerAt l D ad cI cT cJ X S (nI a)) (cwV 1 hts gX2_unlock_X2_ownerAt rfl rfl rfl (by decide +kernel) ⟨Nat.le_of_ble_eq_true rfl, Nat.le_of_ble_eq_true rfl⟩) (fk_rvK hK hP) hK hP hD hS hA rfl hl.1 rfl (Nat.le_of_ble_eq_true rfl) dX2_unlock_16 ⟨Nat.le_of_ble_eq_true rfl, Nat.le_of_ble_eq_true rfl⟩ (fun H locs hP hD hS => ?_)
  rcases o_1 : kk_owner S (nI a) with _ | u2
  · refine W.eq (g2 := F0 m 19 ls [.null]) (by first | rfl | (rw [o_1]; rfl)) ?_
    refine lv_aload_n hx hb dX2_unlock_19 rfl (lv_at hl 0 rfl) ?_
    refine lv_acmp_eq (rx := none) (ry := (some (ad (3 + t)))) (tgt := 33) hx hb dX2_unlock_20 (by decide) (fun c => absurd c (fun h => by cases h)) (fun _ => ?_)
    exact fk_throw (cls := "java/lang/IllegalStateException") (text := "not the owner") (ik := 84) (is := 86) (ic := 88) (rest := []) hx hb hst hown (by decide +kernel) (hts _ (List.mem_of_getElem? (i := 1) rfl)) (hts _ (List.mem_of_getElem? (i := 2) rfl)) (by decide +kernel) (vx_hat (fun w h => hts w (List.mem_cons_of_mem _ (List.mem_append_left _ (List.mem_append_right _ h)))) fk_b88 (fun w h => va_Nw.use (fk_dc_on (fk_bad_dc w h)) (hZ.2.2.2 w h))) fk_b88g hZ hK hP hD hS (hl.1.trans hml.symm) hout hlocks dX2_unlock_23 dX2_unlock_26 dX2_unlock_27 dX2_unlock_29 dX2_unlock_32 ⟨Nat.le_of_ble_eq_true rfl, Nat.le_of_ble_eq_true rfl, Nat.le_of_ble_eq_true rfl, Nat.le_of_ble_eq_true rfl⟩
  · have hu_3 : u2 < 8 := kk_owner_lt o_1
    refine W.eq (g2 := F0 m 19 ls [.ref (ad (3 + u2))]) (by first | rfl | (rw [o_1]; rfl)) ?_
    refine lv_aload_n hx hb dX2_unlock_19 rfl (lv_at hl 0 rfl) ?_
    refine lv_acmp_eq (rx := (some (ad (3 + u2)))) (ry := (some (ad (3 + t)))) (tgt := 33) hx hb dX2_unlock_20 (by decide) (fun c => (h (by rw [o_1]; exact congrArg some (fk_adT hD (kk_owner_lt o_1) ht c))).elim) (fun c_4 => ?_)
    exact fk_throw (cls := "java/lang/IllegalStateException") (text := "not the owner") (ik := 84) (is := 86) (ic := 88) (rest := []) hx hb hst hown (by decide +kernel) (hts _ (List.mem_of_getElem? (i := 1) rfl)) (hts _ (List.mem_of_getElem? (i := 2) rfl)) (by decide +kernel) (vx_hat (fun w h => hts w (List.mem_cons_of_mem _ (List.mem_append_left _ (List.mem_append_right _ h)))) fk_b88 (fun w h => va_Nw.use (fk_dc_on (fk_bad_dc w h)) (hZ.2.2.2 w h))) fk_b88g hZ hK hP hD hS (hl.1.trans hml.symm) hout hlocks dX2_unlock_23 dX2_unlock_26 dX2_unlock_27 dX2_unlock_29 dX2_unlock_32 ⟨Nat.le_of_ble_eq_true rfl, Nat.le_of_ble_eq_true rfl, Nat.le_of_ble_eq_true rfl, Nat.le_of_ble_eq_true rfl⟩

abbrev rmX2_unlock : Room := { frames := 6, cells := 0, slots := 0, locals := 140 }
set_option maxHeartbeats 4000000 in
set_option maxRecDepth 100000 in
theorem kc_unlock (l : Launch) (D : va_G) (ad : Nat → Nat) (cI cT cJ : ClassId) (X : va_W) (S : fk_S) (t : Nat) (ht : t < 8) (a : Nat) (ha : a < 16) (hr0 : S 1 t = 0) (hsz : fk_sz S) (h : kk_owner S (nI a) = some t) : fk_C l D (fk_ty cI cT cJ) yX2_unlock wsX2_unlock rmX2_unlock [.ref (ad 0), .int (nI t), .int (nI a)] (fk_kW ad cI cT S ++ X) (some (.int (kk_unlockR S t a))) (fk_kW ad cI cT (kk_unlock S t a) ++ X) := by
  refine fk_C_of (cc := cX2_unlock) (maxL := 4) (ret := (some .int)) (own := RX2) (by decide) rfl rfl (Nat.le_of_ble_eq_true rfl) ?_
  intro p e s m below meth c A ls hx hb hr hlocks hml hts hown hA hP hK hD hl
  have hS : va_S A s.heap s.heap [] := va_S.rf
  have hl : lv_has ls 4 [(0, .ref (ad 0)), (1, .int (nI t)), (2, .int (nI a))] := hl
  have hiX1 : ∀ w ∈ u_ws RX1 TX1 11, w ∈ wsX2_unlock := by decide +kernel
  refine lv_aload_n hx hb dX2_unlock_0 rfl (lv_at hl 0 rfl) ?_
  refine lv_iload_n hx hb dX2_unlock_1 rfl (lv_at hl 1 rfl) ?_
  refine fk_callV (As := [.int (nI t)]) (rest := []) ⟨hx, hb, hml, hown, hts⟩ (kc_taskOf l D ad cI cT cJ X S t ht) (cwV 1 hts gX2_unlock_X2_taskOf rfl rfl rfl (by decide +kernel) ⟨Nat.le_of_ble_eq_true rfl, Nat.le_of_ble_eq_true rfl⟩) (fk_rvK hK hP) hK hP hD hS hA rfl hl.1 rfl (Nat.le_of_ble_eq_true rfl) dX2_unlock_2 ⟨Nat.le_of_ble_eq_true rfl, Nat.le_of_ble_eq_true rfl⟩ (fun H locs hP hD hS => ?_)
  refine W.eq (g2 := F0 m 5 ls [.ref (ad (3 + t))]) rfl ?_
  refine lv_astore_n (lv' := [(3, .ref (ad (3 + t))), (0, .ref (ad 0)), (1, .int (nI t)), (2, .int (nI a))]) hx hb dX2_unlock_5 rfl hl (by decide) rfl (fun ls hl => ?_)
  refine lv_iload_n hx hb dX2_unlock_6 rfl (lv_at hl 3 rfl) ?_
  refine fk_callS (As := [.int (nI a)]) (rest := []) ⟨hx, hb, hml, hown, hts⟩ (kc_requireAddress l D ad cI cT cJ X S a (by omega)) (va_cwS 1 hts gX2_unlock_X2_requireAddress rfl rfl rfl (by decide +kernel) ⟨Nat.le_of_ble_eq_true rfl, Nat.le_of_ble_eq_true rfl⟩) hK hP hD hS hA rfl hl.1 rfl (Nat.le_of_ble_eq_true rfl) dX2_unlock_7 ⟨Nat.le_of_ble_eq_true rfl, Nat.le_of_ble_eq_true rfl⟩ (fun H locs hP hD hS => ?_)
  refine W.eq (g2 := F0 m 10 ls []) rfl ?_
  refine lv_aload_n hx hb dX2_unlock_10 rfl (lv_at hl 0 rfl) ?_
  refine fk_callS (As := [.ref (ad (3 + t))]) (rest := []) ⟨hx, hb, hml, hown, hts⟩ (kc_requireRunning l D ad cI cT cJ X S t ht hr0) (va_cwS 1 hts gX2_unlock_X2_requireRunning rfl rfl rfl (by decide +kernel) ⟨Nat.le_of_ble_eq_true rfl, Nat.le_of_ble_eq_true rfl⟩) hK hP hD hS hA rfl hl.1 rfl (Nat.le_of_ble_eq_true rfl) dX2_unlock_11 ⟨Nat.le_of_ble_eq_true rfl, Nat.le_of_ble_eq_true rfl⟩ (fun H locs hP hD hS => ?_)
  refine W.eq (g2 := F0 m 14 ls []) rfl ?_
  refine lv_aload_n hx hb dX2_unlock_14 rfl (lv_at hl 1 rfl) ?_
  refine lv_iload_n hx hb dX2_unlock_15 rfl (lv_at hl 3 rfl) ?_
  refine fk_callV (As := [.int (nI a)]) (rest := []) ⟨hx, hb, hml, hown, hts⟩ (by have h9 := (kc_ownerAt l D ad cI cT cJ X S (nI a)); rw [h] at h9; exact h9) (cwV 1 hts gX2_unlock_X2_ownerAt rfl rfl rfl (by decide +kernel) ⟨Nat.le_of_ble_eq_true rfl, Nat.le_of_ble_eq_true rfl⟩) (fk_rvK hK hP) hK hP hD hS hA rfl hl.1 rfl (Nat.le_of_ble_eq_true rfl) dX2_unlock_16 ⟨Nat.le_of_ble_eq_true rfl, Nat.le_of_ble_eq_true rfl⟩ (fun H locs hP hD hS => ?_)
  refine W.eq (g2 := F0 m 19 ls [.ref (ad (3 + t))]) rfl ?_
  refine lv_aload_n hx hb dX2_unlock_19 rfl (lv_at hl 0 rfl) ?_
  refine lv_acmp_eq (rx := (some (ad (3 + t)))) (ry := (some (ad (3 + t)))) (tgt := 33) hx hb dX2_unlock_20 (by decide) (fun _ => ?_) (fun c => absurd rfl c)
  refine lv_aload_n hx hb dX2_unlock_33 rfl (lv_at hl 0 rfl) ?_
  refine fk_getT hx hb hts hiX1 hown hK hP ht 1 (by decide) (v := .ref (ad (11 + t))) rfl (List.mem_of_getElem? (i := 3) rfl) rfl dX2_unlock_34 ?_
  refine lv_iload_n hx hb dX2_unlock_37 rfl (lv_at hl 3 rfl) ?_
  refine fk_callV (As := [.int (nI a)]) (rest := []) ⟨hx, hb, hml, hown, hts⟩ (kc_drop l D ad cI cT cJ X S t (nI a) ht hsz) (cwV 1 hts gX2_unlock_X0_drop rfl rfl rfl (by decide +kernel) ⟨Nat.le_of_ble_eq_true rfl, Nat.le_of_ble_eq_true rfl⟩) (fk_rvL hK hP ht) hK hP hD hS hA rfl hl.1 rfl (Nat.le_of_ble_eq_true rfl) dX2_unlock_38 ⟨Nat.le_of_ble_eq_true rfl, Nat.le_of_ble_eq_true rfl⟩ (fun H locs hP hD hS => ?_)
  refine W.eq (g2 := F0 m 41 ls []) rfl ?_
  refine lv_aload_n hx hb dX2_unlock_41 rfl (lv_at hl 1 rfl) ?_
  refine lv_iload_n hx hb dX2_unlock_42 rfl (lv_at hl 3 rfl) ?_
  refine lv_iconst (v := 0) hx hb dX2_unlock_43 (by decide) ?_
  refine fk_callV (As := [.int (nI a), .int 0]) (rest := []) ⟨hx, hb, hml, hown, hts⟩ (kc_passOn l D ad cI cT cJ X (kk_drop S t (nI a)) (nI a) false (kk_drop_sz ht hsz)) (cwV 2 hts gX2_unlock_X2_passOn rfl rfl rfl (by decide +kernel) ⟨Nat.le_of_ble_eq_true rfl, Nat.le_of_ble_eq_true rfl⟩) (fk_rvK hK hP) hK hP hD hS hA rfl hl.1 rfl (Nat.le_of_ble_eq_true rfl) dX2_unlock_44 ⟨Nat.le_of_ble_eq_true rfl, Nat.le_of_ble_eq_true rfl⟩ (fun H locs hP hD hS => ?_)
  refine W.eq (g2 := F0 m 47 ls [.int (fk_oI (kk_lk (kk_drop S t (nI a)) (nI a)))]) rfl ?_
  exact fk_iret hx hb hr hlocks hP hK hD hS (congrArg (fun z => fk_kW ad cI cT z ++ X) (by rfl)) (by rfl) dX2_unlock_47

set_option maxHeartbeats 4000000 in
set_option maxRecDepth 100000 in
theorem kx_locks_1 (l : Launch) (D : va_G) (ad : Nat → Nat) (cI cT cJ : ClassId) (X : va_W) (S : fk_S) (hst : l.stackTraces = false) (th : Int32) (h : fk_isT th = false) : fk_X l D (fk_ty cI cT cJ) yX2_locks wsX2_locks rx_pub [.ref (ad 0), .int th] (fk_kW ad cI cT S ++ X) "java/lang/IndexOutOfBoundsException" := by
  refine fk_X_of (cc := cX2_locks) (maxL := 2) (ret := (some .int)) (own := RX2) (by decide) rfl rfl (Nat.le_of_ble_eq_true rfl) ?_
  intro p e s m below meth c A ls hx hb hout hlocks hml hts hown hA hP hK hD hZ hl
  have hS : va_S A s.heap s.heap [] := va_S.rf
  have hl : lv_has ls 2 [(0, .ref (ad 0)), (1, .int th)] := hl
  refine lv_aload_n hx hb dX2_locks_0 rfl (lv_at hl 0 rfl) ?_
  refine lv_iload_n hx hb dX2_locks_1 rfl (lv_at hl 1 rfl) ?_
  exact fk_xcallV (As := [.int th]) (rest := []) ⟨hx, hb, hml, hown, hts⟩ (kx_taskOf l D ad cI cT cJ X S hst th h) (cwV 1 hts gX2_locks_X2_taskOf rfl rfl rfl (by decide +kernel) ⟨Nat.le_of_ble_eq_true rfl, Nat.le_of_ble_eq_true rfl⟩) (fk_rvK hK hP) hK hP hD hS hA hZ rfl hl.1 rfl (Nat.le_of_ble_eq_true rfl) dX2_locks_2 ⟨Nat.le_of_ble_eq_true rfl, Nat.le_of_ble_eq_true rfl⟩ (fk_thru hout hlocks hK hD)

abbrev rmX2_locks : Room := { frames := 1, cells := 0, slots := 0, locals := 21 }
set_option maxHeartbeats 4000000 in
set_option maxRecDepth 100000 in
theorem kc_locks (l : Launch) (D : va_G) (ad : Nat → Nat) (cI cT cJ : ClassId) (X : va_W) (S : fk_S) (t : Nat) (ht : t < 8) : fk_C l D (fk_ty cI cT cJ) yX2_locks wsX2_locks rmX2_locks [.ref (ad 0), .int (nI t)] (fk_kW ad cI cT S ++ X) (some (.int (S 10 t))) (fk_kW ad cI cT S ++ X) := by
  refine fk_C_of (cc := cX2_locks) (maxL := 2) (ret := (some .int)) (own := RX2) (by decide) rfl rfl (Nat.le_of_ble_eq_true rfl) ?_
  intro p e s m below meth c A ls hx hb hr hlocks hml hts hown hA hP hK hD hl
  have hS : va_S A s.heap s.heap [] := va_S.rf
  have hl : lv_has ls 2 [(0, .ref (ad 0)), (1, .int (nI t))] := hl
  have hiX0 : ∀ w ∈ u_ws RX0 TX0 2, w ∈ wsX2_locks := by decide +kernel
  have hiX1 : ∀ w ∈ u_ws RX1 TX1 11, w ∈ wsX2_locks := by decide +kernel
  refine lv_aload_n hx hb dX2_locks_0 rfl (lv_at hl 0 rfl) ?_
  refine lv_iload_n hx hb dX2_locks_1 rfl (lv_at hl 1 rfl) ?_
  refine fk_callV (As := [.int (nI t)]) (rest := []) ⟨hx, hb, hml, hown, hts⟩ (kc_taskOf l D ad cI cT cJ X S t ht) (cwV 1 hts gX2_locks_X2_taskOf rfl rfl rfl (by decide +kernel) ⟨Nat.le_of_ble_eq_true rfl, Nat.le_of_ble_eq_true rfl⟩) (fk_rvK hK hP) hK hP hD hS hA rfl hl.1 rfl (Nat.le_of_ble_eq_true rfl) dX2_locks_2 ⟨Nat.le_of_ble_eq_true rfl, Nat.le_of_ble_eq_true rfl⟩ (fun H locs hP hD hS => ?_)
  refine W.eq (g2 := F0 m 5 ls [.ref (ad (3 + t))]) rfl ?_
  refine fk_getT hx hb hts hiX1 hown hK hP ht 1 (by decide) (v := .ref (ad (11 + t))) rfl (List.mem_of_getElem? (i := 1) rfl) rfl dX2_locks_5 ?_
  refine fk_getL hx hb hts hiX0 hown hK hP ht 1 (by decide) (v := .int (S 10 t)) rfl (List.mem_of_getElem? (i := 2) rfl) rfl dX2_locks_8 ?_
  exact fk_iret hx hb hr hlocks hP hK hD hS (congrArg (fun z => fk_kW ad cI cT z ++ X) (by first | rfl | simp [])) (by rfl) dX2_locks_11

set_option maxHeartbeats 4000000 in
set_option maxRecDepth 100000 in
theorem kx_lockAt_1 (l : Launch) (D : va_G) (ad : Nat → Nat) (cI cT cJ : ClassId) (X : va_W) (S : fk_S) (hst : l.stackTraces = false) (th q : Int32) (h : fk_isT th = false) : fk_X l D (fk_ty cI cT cJ) yX2_lockAt wsX2_lockAt rx_pub [.ref (ad 0), .int th, .int q] (fk_kW ad cI cT S ++ X) "java/lang/IndexOutOfBoundsException" := by
  refine fk_X_of (cc := cX2_lockAt) (maxL := 4) (ret := (some .int)) (own := RX2) (by decide) rfl rfl (Nat.le_of_ble_eq_true rfl) ?_
  intro p e s m below meth c A ls hx hb hout hlocks hml hts hown hA hP hK hD hZ hl
  have hS : va_S A s.heap s.heap [] := va_S.rf
  have hl : lv_has ls 4 [(0, .ref (ad 0)), (1, .int th), (2, .int q)] := hl
  refine lv_aload_n hx hb dX2_lockAt_0 rfl (lv_at hl 0 rfl) ?_
  refine lv_iload_n hx hb dX2_lockAt_1 rfl (lv_at hl 1 rfl) ?_
  exact fk_xcallV (As := [.int th]) (rest := []) ⟨hx, hb, hml, hown, hts⟩ (kx_taskOf l D ad cI cT cJ X S hst th h) (cwV 1 hts gX2_lockAt_X2_taskOf rfl rfl rfl (by decide +kernel) ⟨Nat.le_of_ble_eq_true rfl, Nat.le_of_ble_eq_true rfl⟩) (fk_rvK hK hP) hK hP hD hS hA hZ rfl hl.1 rfl (Nat.le_of_ble_eq_true rfl) dX2_lockAt_2 ⟨Nat.le_of_ble_eq_true rfl, Nat.le_of_ble_eq_true rfl⟩ (fk_thru hout hlocks hK hD)

set_option maxHeartbeats 4000000 in
set_option maxRecDepth 100000 in
theorem kx_lockAt_2 (l : Launch) (D : va_G) (ad : Nat → Nat) (cI cT cJ : ClassId) (X : va_W) (S : fk_S) (hst : l.stackTraces = false) (t : Nat) (ht : t < 8) (q : Int32) (h : ¬ (0 ≤ q ∧ q < S 10 t)) : fk_X l D (fk_ty cI cT cJ) yX2_lockAt wsX2_lockAt rx_pub [.ref (ad 0), .int (nI t), .int q] (fk_kW ad cI cT S ++ X) "java/lang/IndexOutOfBoundsException" := by
  refine fk_X_of (cc := cX2_lockAt) (maxL := 4) (ret := (some .int)) (own := RX2) (by decide) rfl rfl (Nat.le_of_ble_eq_true rfl) ?_
  intro p e s m below meth c A ls hx hb hout hlocks hml hts hown hA hP hK hD hZ hl
  have hS : va_S A s.heap s.heap [] := va_S.rf
  have hl : lv_has ls 4 [(0, .ref (ad 0)), (1, .int (nI t)), (2, .int q)] := hl
  have hiX0 : ∀ w ∈ u_ws RX0 TX0 2, w ∈ wsX2_lockAt := by decide +kernel
  have hiX1 : ∀ w ∈ u_ws RX1 TX1 11, w ∈ wsX2_lockAt := by decide +kernel
  refine lv_aload_n hx hb dX2_lockAt_0 rfl (lv_at hl 0 rfl) ?_
  refine lv_iload_n hx hb dX2_lockAt_1 rfl (lv_at hl 1 rfl) ?_
  refine fk_callV (As := [.int (nI t)]) (rest := []) ⟨hx, hb, hml, hown, hts⟩ (kc_taskOf l D ad cI cT cJ X S t ht) (cwV 1 hts gX2_lockAt_X2_taskOf rfl rfl rfl (by decide +kernel) ⟨Nat.le_of_ble_eq_true rfl, Nat.le_of_ble_eq_true rfl⟩) (fk_rvK hK hP) hK hP hD hS hA rfl hl.1 rfl (Nat.le_of_ble_eq_true rfl) dX2_lockAt_2 ⟨Nat.le_of_ble_eq_true rfl, Nat.le_of_ble_eq_true rfl⟩ (fun H locs hP hD hS => ?_)
  refine W.eq (g2 := F0 m 5 ls [.ref (ad (3 + t))]) rfl ?_
  refine fk_getT hx hb hts hiX1 hown hK hP ht 1 (by decide) (v := .ref (ad (11 + t))) rfl (List.mem_of_getElem? (i := 3) rfl) rfl dX2_lockAt_5 ?_
  refine lv_astore_n (lv' := [(3, .ref (ad (11 + t))), (0, .ref (ad 0)), (1, .int (nI t)), (2, .int q)]) hx hb dX2_lockAt_8 rfl hl (by decide) rfl (fun ls hl => ?_)
  refine lv_iload_n hx hb dX2_lockAt_9 rfl (lv_at hl 3 rfl) ?_
  refine lv_if_lt (tgt := 21) hx hb dX2_lockAt_10 (by decide) (fun c_1 => ?_) (fun c_1 => ?_)
  · exact fk_throw (cls := "java/lang/IndexOutOfBoundsException") (text := "no such place") (ik := 105) (is := 107) (ic := 109) (rest := []) hx hb hst hown (by decide +kernel) (hts _ (List.mem_of_getElem? (i := 1) rfl)) (hts _ (List.mem_of_getElem? (i := 2) rfl)) (by decide +kernel) (vx_hat (fun w h => hts w (List.mem_cons_of_mem _ (List.mem_append_right _ h))) fk_b109 (fun w h => va_Nw.use (fk_dc_on (fk_bad_dc w h)) (hZ.2.2.2 w h))) fk_b109g hZ hK hP hD hS (hl.1.trans hml.symm) hout hlocks dX2_lockAt_21 dX2_lockAt_24 dX2_lockAt_25 dX2_lockAt_27 dX2_lockAt_30 ⟨Nat.le_of_ble_eq_true rfl, Nat.le_of_ble_eq_true rfl, Nat.le_of_ble_eq_true rfl, Nat.le_of_ble_eq_true rfl⟩
  · refine lv_iload_n hx hb dX2_lockAt_13 rfl (lv_at hl 3 rfl) ?_
    refine lv_aload_n hx hb dX2_lockAt_14 rfl (lv_at hl 0 rfl) ?_
    refine fk_getL hx hb hts hiX0 hown hK hP ht 1 (by decide) (v := .int (S 10 t)) rfl (List.mem_of_getElem? (i := 4) rfl) rfl dX2_lockAt_15 ?_
    refine lv_icmp_lt (tgt := 31) hx hb dX2_lockAt_18 (by decide) (fun c_2 => absurd c_2 (fun h9 => h ⟨Int32.not_lt.mp c_1, h9⟩)) (fun c_2 => ?_)
    exact fk_throw (cls := "java/lang/IndexOutOfBoundsException") (text := "no such place") (ik := 105) (is := 107) (ic := 109) (rest := []) hx hb hst hown (by decide +kernel) (hts _ (List.mem_of_getElem? (i := 1) rfl)) (hts _ (List.mem_of_getElem? (i := 2) rfl)) (by decide +kernel) (vx_hat (fun w h => hts w (List.mem_cons_of_mem _ (List.mem_append_right _ h))) fk_b109 (fun w h => va_Nw.use (fk_dc_on (fk_bad_dc w h)) (hZ.2.2.2 w h))) fk_b109g hZ hK hP hD hS (hl.1.trans hml.symm) hout hlocks dX2_lockAt_21 dX2_lockAt_24 dX2_lockAt_25 dX2_lockAt_27 dX2_lockAt_30 ⟨Nat.le_of_ble_eq_true rfl, Nat.le_of_ble_eq_true rfl, Nat.le_of_ble_eq_true rfl, Nat.le_of_ble_eq_true rfl⟩

abbrev rmX2_lockAt : Room := { frames := 1, cells := 0, slots := 0, locals := 21 }
set_option maxHeartbeats 4000000 in
set_option maxRecDepth 100000 in
theorem kc_lockAt (l : Launch) (D : va_G) (ad : Nat → Nat) (cI cT cJ : ClassId) (X : va_W) (S : fk_S) (t : Nat) (ht : t < 8) (q : Int32) (hsz : fk_sz S) (h : 0 ≤ q ∧ q < S 10 t) : fk_C l D (fk_ty cI cT cJ) yX2_lockAt wsX2_lockAt rmX2_lockAt [.ref (ad 0), .int (nI t), .int q] (fk_kW ad cI cT S ++ X) (some (.int (kk_addrAt S t q))) (fk_kW ad cI cT S ++ X) := by
  refine fk_C_of (cc := cX2_lockAt) (maxL := 4) (ret := (some .int)) (own := RX2) (by decide) rfl rfl (Nat.le_of_ble_eq_true rfl) ?_
  intro p e s m below meth c A ls hx hb hr hlocks hml hts hown hA hP hK hD hl
  have hS : va_S A s.heap s.heap [] := va_S.rf
  have hl : lv_has ls 4 [(0, .ref (ad 0)), (1, .int (nI t)), (2, .int q)] := hl
  have hiX0 : ∀ w ∈ u_ws RX0 TX0 2, w ∈ wsX2_lockAt := by decide +kernel
  have hiX1 : ∀ w ∈ u_ws RX1 TX1 11, w ∈ wsX2_lockAt := by decide +kernel
  refine lv_aload_n hx hb dX2_lockAt_0 rfl (lv_at hl 0 rfl) ?_
  refine lv_iload_n hx hb dX2_lockAt_1 rfl (lv_at hl 1 rfl) ?_
  refine fk_callV (As := [.int (nI t)]) (rest := []) ⟨hx, hb, hml, hown, hts⟩ (kc_taskOf l D ad cI cT cJ X S t ht) (cwV 1 hts gX2_lockAt_X2_taskOf rfl rfl rfl (by decide +kernel) ⟨Nat.le_of_ble_eq_true rfl, Nat.le_of_ble_eq_true rfl⟩) (fk_rvK hK hP) hK hP hD hS hA rfl hl.1 rfl (Nat.le_of_ble_eq_true rfl) dX2_lockAt_2 ⟨Nat.le_of_ble_eq_true rfl, Nat.le_of_ble_eq_true rfl⟩ (fun H locs hP hD hS => ?_)
  refine W.eq (g2 := F0 m 5 ls [.ref (ad (3 + t))]) rfl ?_
  refine fk_getT hx hb hts hiX1 hown hK hP ht 1 (by decide) (v := .ref (ad (11 + t))) rfl (List.mem_of_getElem? (i := 3) rfl) rfl dX2_lockAt_5 ?_
  refine lv_astore_n (lv' := [(3, .ref (ad (11 + t))), (0, .ref (ad 0)), (1, .int (nI t)), (2, .int q)]) hx hb dX2_lockAt_8 rfl hl (by decide) rfl (fun ls hl => ?_)
  refine lv_iload_n hx hb dX2_lockAt_9 rfl (lv_at hl 3 rfl) ?_
  refine lv_if_lt (tgt := 21) hx hb dX2_lockAt_10 (by decide) (fun c_1 => absurd c_1 (Int32.not_lt.mpr h.1)) (fun c_1 => ?_)
  refine lv_iload_n hx hb dX2_lockAt_13 rfl (lv_at hl 3 rfl) ?_
  refine lv_aload_n hx hb dX2_lockAt_14 rfl (lv_at hl 0 rfl) ?_
  refine fk_getL hx hb hts hiX0 hown hK hP ht 1 (by decide) (v := .int (S 10 t)) rfl (List.mem_of_getElem? (i := 4) rfl) rfl dX2_lockAt_15 ?_
  refine lv_icmp_lt (tgt := 31) hx hb dX2_lockAt_18 (by decide) (fun c_2 => ?_) (fun c_2 => absurd h.2 c_2)
  refine lv_aload_n hx hb dX2_lockAt_31 rfl (lv_at hl 0 rfl) ?_
  refine lv_iload_n hx hb dX2_lockAt_32 rfl (lv_at hl 3 rfl) ?_
  refine fk_callV (As := [.int q]) (rest := []) ⟨hx, hb, hml, hown, hts⟩ (kc_addressAt l D ad cI cT cJ X S t q ht hsz) (cwV 1 hts gX2_lockAt_X0_addressAt rfl rfl rfl (by decide +kernel) ⟨Nat.le_of_ble_eq_true rfl, Nat.le_of_ble_eq_true rfl⟩) (fk_rvL hK hP ht) hK hP hD hS hA rfl hl.1 rfl (Nat.le_of_ble_eq_true rfl) dX2_lockAt_33 ⟨Nat.le_of_ble_eq_true rfl, Nat.le_of_ble_eq_true rfl⟩ (fun H locs hP hD hS => ?_)
  refine W.eq (g2 := F0 m 36 ls [.int (kk_addrAt S t q)]) rfl ?_
  exact fk_iret hx hb hr hlocks hP hK hD hS (congrArg (fun z => fk_kW ad cI cT z ++ X) (by first | rfl | simp [c_1, c_2])) (by rfl) dX2_lockAt_36

set_option maxHeartbeats 4000000 in
set_option maxRecDepth 100000 in
theorem kx_interrupt_1 (l : Launch) (D : va_G) (ad : Nat → Nat) (cI cT cJ : ClassId) (X : va_W) (S : fk_S) (hst : l.stackTraces = false) (th : Int32) (h : fk_isT th = false) : fk_X l D (fk_ty cI cT cJ) yX2_interrupt wsX2_interrupt rx_pub [.ref (ad 0), .int th] (fk_kW ad cI cT S ++ X) "java/lang/IndexOutOfBoundsException" := by
  refine fk_X_of (cc := cX2_interrupt) (maxL := 3) (ret := none) (own := RX2) (by decide) rfl rfl (Nat.le_of_ble_eq_true rfl) ?_
  intro p e s m below meth c A ls hx hb hout hlocks hml hts hown hA hP hK hD hZ hl
  have hS : va_S A s.heap s.heap [] := va_S.rf
  have hl : lv_has ls 3 [(0, .ref (ad 0)), (1, .int th)] := hl
  refine lv_aload_n hx hb dX2_interrupt_0 rfl (lv_at hl 0 rfl) ?_
  refine lv_iload_n hx hb dX2_interrupt_1 rfl (lv_at hl 1 rfl) ?_
  exact fk_xcallV (As := [.int th]) (rest := []) ⟨hx, hb, hml, hown, hts⟩ (kx_taskOf l D ad cI cT cJ X S hst th h) (cwV 1 hts gX2_interrupt_X2_taskOf rfl rfl rfl (by decide +kernel) ⟨Nat.le_of_ble_eq_true rfl, Nat.le_of_ble_eq_true rfl⟩) (fk_rvK hK hP) hK hP hD hS hA hZ rfl hl.1 rfl (Nat.le_of_ble_eq_true rfl) dX2_interrupt_2 ⟨Nat.le_of_ble_eq_true rfl, Nat.le_of_ble_eq_true rfl⟩ (fk_thru hout hlocks hK hD)

set_option maxHeartbeats 4000000 in
set_option maxRecDepth 100000 in
theorem kx_interrupt_2 (l : Launch) (D : va_G) (ad : Nat → Nat) (cI cT cJ : ClassId) (X : va_W) (S : fk_S) (hst : l.stackTraces = false) (t : Nat) (ht : t < 8) (h : kk_q S t = false) : fk_X l D (fk_ty cI cT cJ) yX2_interrupt wsX2_interrupt rx_pub [.ref (ad 0), .int (nI t)] (fk_kW ad cI cT S ++ X) "java/lang/IllegalStateException" := by
  refine fk_X_of (cc := cX2_interrupt) (maxL := 3) (ret := none) (own := RX2) (by decide) rfl rfl (Nat.le_of_ble_eq_true rfl) ?_
  intro p e s m below meth c A ls hx hb hout hlocks hml hts hown hA hP hK hD hZ hl
  have hS : va_S A s.heap s.heap [] := va_S.rf
  have hl : lv_has ls 3 [(0, .ref (ad 0)), (1, .int (nI t))] := hl
  refine lv_aload_n hx hb dX2_interrupt_0 rfl (lv_at hl 0 rfl) ?_
  refine lv_iload_n hx hb dX2_interrupt_1 rfl (lv_at hl 1 rfl) ?_
  refine fk_callV (As := [.int (nI t)]) (rest := []) ⟨hx, hb, hml, hown, hts⟩ (kc_taskOf l D ad cI cT cJ X S t ht) (cwV 1 hts gX2_interrupt_X2_taskOf rfl rfl rfl (by decide +kernel) ⟨Nat.le_of_ble_eq_true rfl, Nat.le_of_ble_eq_true rfl⟩) (fk_rvK hK hP) hK hP hD hS hA rfl hl.1 rfl (Nat.le_of_ble_eq_true rfl) dX2_interrupt_2 ⟨Nat.le_of_ble_eq_true rfl, Nat.le_of_ble_eq_true rfl⟩ (fun H locs hP hD hS => ?_)
  refine W.eq (g2 := F0 m 5 ls [.ref (ad (3 + t))]) rfl ?_
  refine lv_astore_n (lv' := [(2, .ref (ad (3 + t))), (0, .ref (ad 0)), (1, .int (nI t))]) hx hb dX2_interrupt_5 rfl hl (by decide) rfl (fun ls hl => ?_)
  refine lv_aload_n hx hb dX2_interrupt_6 rfl (lv_at hl 0 rfl) ?_
  refine fk_callV (As := []) (rest := []) ⟨hx, hb, hml, hown, hts⟩ (by have h9 := (kc_isQueued l D ad cI cT cJ X S t ht); rw [h] at h9; exact h9) (cwV 0 hts gX2_interrupt_X1_isQueued rfl rfl rfl (by decide +kernel) ⟨Nat.le_of_ble_eq_true rfl, Nat.le_of_ble_eq_true rfl⟩) (fk_rvT hK hP ht) hK hP hD hS hA rfl hl.1 rfl (Nat.le_of_ble_eq_true rfl) dX2_interrupt_7 ⟨Nat.le_of_ble_eq_true rfl, Nat.le_of_ble_eq_true rfl⟩ (fun H locs hP hD hS => ?_)
  refine W.eq (g2 := F0 m 10 ls [.int 0]) rfl ?_
  refine lv_if_ne (tgt := 23) hx hb dX2_interrupt_10 (by decide) (fun c => absurd c (by decide)) (fun _ => ?_)
  exact fk_throw (cls := "java/lang/IllegalStateException") (text := "neither WAITING nor LOCKING") (ik := 84) (is := 130) (ic := 88) (rest := []) hx hb hst hown (by decide +kernel) (hts _ (List.mem_of_getElem? (i := 1) rfl)) (hts _ (List.mem_of_getElem? (i := 2) rfl)) (by decide +kernel) (vx_hat (fun w h => hts w (List.mem_cons_of_mem _ (List.mem_append_left _ (List.mem_append_right _ h)))) fk_b88 (fun w h => va_Nw.use (fk_dc_on (fk_bad_dc w h)) (hZ.2.2.2 w h))) fk_b88g hZ hK hP hD hS (hl.1.trans hml.symm) hout hlocks dX2_interrupt_13 dX2_interrupt_16 dX2_interrupt_17 dX2_interrupt_19 dX2_interrupt_22 ⟨Nat.le_of_ble_eq_true rfl, Nat.le_of_ble_eq_true rfl, Nat.le_of_ble_eq_true rfl, Nat.le_of_ble_eq_true rfl⟩

abbrev rmX2_interrupt : Room := { frames := 5, cells := 0, slots := 0, locals := 116 }
set_option maxHeartbeats 4000000 in
set_option maxRecDepth 100000 in
theorem kc_interrupt (l : Launch) (D : va_G) (ad : Nat → Nat) (cI cT cJ : ClassId) (X : va_W) (S : fk_S) (t : Nat) (ht : t < 8) (h : kk_q S t = true) : fk_C l D (fk_ty cI cT cJ) yX2_interrupt wsX2_interrupt rmX2_interrupt [.ref (ad 0), .int (nI t)] (fk_kW ad cI cT S ++ X) none (fk_kW ad cI cT (kk_end S t 2) ++ X) := by
  refine fk_C_of (cc := cX2_interrupt) (maxL := 3) (ret := none) (own := RX2) (by decide) rfl rfl (Nat.le_of_ble_eq_true rfl) ?_
  intro p e s m below meth c A ls hx hb hr hlocks hml hts hown hA hP hK hD hl
  have hS : va_S A s.heap s.heap [] := va_S.rf
  have hl : lv_has ls 3 [(0, .ref (ad 0)), (1, .int (nI t))] := hl
  refine lv_aload_n hx hb dX2_interrupt_0 rfl (lv_at hl 0 rfl) ?_
  refine lv_iload_n hx hb dX2_interrupt_1 rfl (lv_at hl 1 rfl) ?_
  refine fk_callV (As := [.int (nI t)]) (rest := []) ⟨hx, hb, hml, hown, hts⟩ (kc_taskOf l D ad cI cT cJ X S t ht) (cwV 1 hts gX2_interrupt_X2_taskOf rfl rfl rfl (by decide +kernel) ⟨Nat.le_of_ble_eq_true rfl, Nat.le_of_ble_eq_true rfl⟩) (fk_rvK hK hP) hK hP hD hS hA rfl hl.1 rfl (Nat.le_of_ble_eq_true rfl) dX2_interrupt_2 ⟨Nat.le_of_ble_eq_true rfl, Nat.le_of_ble_eq_true rfl⟩ (fun H locs hP hD hS => ?_)
  refine W.eq (g2 := F0 m 5 ls [.ref (ad (3 + t))]) rfl ?_
  refine lv_astore_n (lv' := [(2, .ref (ad (3 + t))), (0, .ref (ad 0)), (1, .int (nI t))]) hx hb dX2_interrupt_5 rfl hl (by decide) rfl (fun ls hl => ?_)
  refine lv_aload_n hx hb dX2_interrupt_6 rfl (lv_at hl 0 rfl) ?_
  refine fk_callV (As := []) (rest := []) ⟨hx, hb, hml, hown, hts⟩ (by have h9 := (kc_isQueued l D ad cI cT cJ X S t ht); rw [h] at h9; exact h9) (cwV 0 hts gX2_interrupt_X1_isQueued rfl rfl rfl (by decide +kernel) ⟨Nat.le_of_ble_eq_true rfl, Nat.le_of_ble_eq_true rfl⟩) (fk_rvT hK hP ht) hK hP hD hS hA rfl hl.1 rfl (Nat.le_of_ble_eq_true rfl) dX2_interrupt_7 ⟨Nat.le_of_ble_eq_true rfl, Nat.le_of_ble_eq_true rfl⟩ (fun H locs hP hD hS => ?_)
  refine W.eq (g2 := F0 m 10 ls [.int 1]) rfl ?_
  refine lv_if_ne (tgt := 23) hx hb dX2_interrupt_10 (by decide) (fun _ => ?_) (fun c => absurd c (by decide))
  refine lv_aload_n hx hb dX2_interrupt_23 rfl (lv_at hl 1 rfl) ?_
  refine lv_aload_n hx hb dX2_interrupt_24 rfl (lv_at hl 0 rfl) ?_
  refine lv_iconst (v := 2) hx hb dX2_interrupt_25 (by decide) ?_
  refine fk_callV (As := [.ref (ad (3 + t)), .int 2]) (rest := []) ⟨hx, hb, hml, hown, hts⟩ (kc_endWait l D ad cI cT cJ X S t 2 ht) (cwV 2 hts gX2_interrupt_X2_endWait rfl rfl rfl (by decide +kernel) ⟨Nat.le_of_ble_eq_true rfl, Nat.le_of_ble_eq_true rfl⟩) (fk_rvK hK hP) hK hP hD hS hA rfl hl.1 rfl (Nat.le_of_ble_eq_true rfl) dX2_interrupt_26 ⟨Nat.le_of_ble_eq_true rfl, Nat.le_of_ble_eq_true rfl⟩ (fun H locs hP hD hS => ?_)
  refine W.eq (g2 := F0 m 29 ls []) rfl ?_
  exact fk_vret hx hb hr hlocks hP hK hD hS (congrArg (fun z => fk_kW ad cI cT z ++ X) (by first | rfl | simp [])) (by rfl) dX2_interrupt_29

set_option maxHeartbeats 4000000 in
set_option maxRecDepth 100000 in
theorem kx_start_1 (l : Launch) (D : va_G) (ad : Nat → Nat) (cI cT cJ : ClassId) (X : va_W) (S : fk_S) (hst : l.stackTraces = false) (th : Int32) (h : fk_isT th = false) : fk_X l D (fk_ty cI cT cJ) yX2_start wsX2_start rx_pub [.ref (ad 0), .int th] (fk_kW ad cI cT S ++ X) "java/lang/IndexOutOfBoundsException" := by
  refine fk_X_of (cc := cX2_start) (maxL := 3) (ret := none) (own := RX2) (by decide) rfl rfl (Nat.le_of_ble_eq_true rfl) ?_
  intro p e s m below meth c A ls hx hb hout hlocks hml hts hown hA hP hK hD hZ hl
  have hS : va_S A s.heap s.heap [] := va_S.rf
  have hl : lv_has ls 3 [(0, .ref (ad 0)), (1, .int th)] := hl
  refine lv_aload_n hx hb dX2_start_0 rfl (lv_at hl 0 rfl) ?_
  refine lv_iload_n hx hb dX2_start_1 rfl (lv_at hl 1 rfl) ?_
  exact fk_xcallV (As := [.int th]) (rest := []) ⟨hx, hb, hml, hown, hts⟩ (kx_taskOf l D ad cI cT cJ X S hst th h) (cwV 1 hts gX2_start_X2_taskOf rfl rfl rfl (by decide +kernel) ⟨Nat.le_of_ble_eq_true rfl, Nat.le_of_ble_eq_true rfl⟩) (fk_rvK hK hP) hK hP hD hS hA hZ rfl hl.1 rfl (Nat.le_of_ble_eq_true rfl) dX2_start_2 ⟨Nat.le_of_ble_eq_true rfl, Nat.le_of_ble_eq_true rfl⟩ (fk_thru hout hlocks hK hD)

set_option maxHeartbeats 4000000 in
set_option maxRecDepth 100000 in
theorem kx_start_2 (l : Launch) (D : va_G) (ad : Nat → Nat) (cI cT cJ : ClassId) (X : va_W) (S : fk_S) (hst : l.stackTraces = false) (t : Nat) (ht : t < 8) (h : ¬ S 1 t = 3) : fk_X l D (fk_ty cI cT cJ) yX2_start wsX2_start rx_pub [.ref (ad 0), .int (nI t)] (fk_kW ad cI cT S ++ X) "java/lang/IllegalStateException" := by
  refine fk_X_of (cc := cX2_start) (maxL := 3) (ret := none) (own := RX2) (by decide) rfl rfl (Nat.le_of_ble_eq_true rfl) ?_
  intro p e s m below meth c A ls hx hb hout hlocks hml hts hown hA hP hK hD hZ hl
  have hS : va_S A s.heap s.heap [] := va_S.rf
  have hl : lv_has ls 3 [(0, .ref (ad 0)), (1, .int (nI t))] := hl
  have hiX1 : ∀ w ∈ u_ws RX1 TX1 11, w ∈ wsX2_start := by decide +kernel
  refine lv_aload_n hx hb dX2_start_0 rfl (lv_at hl 0 rfl) ?_
  refine lv_iload_n hx hb dX2_start_1 rfl (lv_at hl 1 rfl) ?_
  refine fk_callV (As := [.int (nI t)]) (rest := []) ⟨hx, hb, hml, hown, hts⟩ (kc_taskOf l D ad cI cT cJ X S t ht) (cwV 1 hts gX2_start_X2_taskOf rfl rfl rfl (by decide +kernel) ⟨Nat.le_of_ble_eq_true rfl, Nat.le_of_ble_eq_true rfl⟩) (fk_rvK hK hP) hK hP hD hS hA rfl hl.1 rfl (Nat.le_of_ble_eq_true rfl) dX2_start_2 ⟨Nat.le_of_ble_eq_true rfl, Nat.le_of_ble_eq_true rfl⟩ (fun H locs hP hD hS => ?_)
  refine W.eq (g2 := F0 m 5 ls [.ref (ad (3 + t))]) rfl ?_
  refine lv_astore_n (lv' := [(2, .ref (ad (3 + t))), (0, .ref (ad 0)), (1, .int (nI t))]) hx hb dX2_start_5 rfl hl (by decide) rfl (fun ls hl => ?_)
  refine lv_aload_n hx hb dX2_start_6 rfl (lv_at hl 0 rfl) ?_
  refine fk_getT hx hb hts hiX1 hown hK hP ht 2 (by decide) (v := .int (S 1 t)) rfl (List.mem_of_getElem? (i := 3) rfl) rfl dX2_start_7 ?_
  refine lv_iconst (v := 3) hx hb dX2_start_10 (by decide) ?_
  refine lv_icmp_eq (tgt := 24) hx hb dX2_start_11 (by decide) (fun c_1 => absurd c_1 h) (fun c_1 => ?_)
  exact fk_throw (cls := "java/lang/IllegalStateException") (text := "not DEAD") (ik := 84) (is := 145) (ic := 88) (rest := []) hx hb hst hown (by decide +kernel) (hts _ (List.mem_of_getElem? (i := 1) rfl)) (hts _ (List.mem_of_getElem? (i := 2) rfl)) (by decide +kernel) (vx_hat (fun w h => hts w (List.mem_cons_of_mem _ (List.mem_append_left _ (List.mem_append_right _ h)))) fk_b88 (fun w h => va_Nw.use (fk_dc_on (fk_bad_dc w h)) (hZ.2.2.2 w h))) fk_b88g hZ hK hP hD hS (hl.1.trans hml.symm) hout hlocks dX2_start_14 dX2_start_17 dX2_start_18 dX2_start_20 dX2_start_23 ⟨Nat.le_of_ble_eq_true rfl, Nat.le_of_ble_eq_true rfl, Nat.le_of_ble_eq_true rfl, Nat.le_of_ble_eq_true rfl⟩

abbrev rmX2_start : Room := { frames := 1, cells := 0, slots := 0, locals := 21 }
set_option maxHeartbeats 4000000 in
set_option maxRecDepth 100000 in
theorem kc_start (l : Launch) (D : va_G) (ad : Nat → Nat) (cI cT cJ : ClassId) (X : va_W) (S : fk_S) (t : Nat) (ht : t < 8) (h : S 1 t = 3) : fk_C l D (fk_ty cI cT cJ) yX2_start wsX2_start rmX2_start [.ref (ad 0), .int (nI t)] (fk_kW ad cI cT S ++ X) none (fk_kW ad cI cT (kk_start S t) ++ X) := by
  refine fk_C_of (cc := cX2_start) (maxL := 3) (ret := none) (own := RX2) (by decide) rfl rfl (Nat.le_of_ble_eq_true rfl) ?_
  intro p e s m below meth c A ls hx hb hr hlocks hml hts hown hA hP hK hD hl
  have hS : va_S A s.heap s.heap [] := va_S.rf
  have hl : lv_has ls 3 [(0, .ref (ad 0)), (1, .int (nI t))] := hl
  have hiX1 : ∀ w ∈ u_ws RX1 TX1 11, w ∈ wsX2_start := by decide +kernel
  refine lv_aload_n hx hb dX2_start_0 rfl (lv_at hl 0 rfl) ?_
  refine lv_iload_n hx hb dX2_start_1 rfl (lv_at hl 1 rfl) ?_
  refine fk_callV (As := [.int (nI t)]) (rest := []) ⟨hx, hb, hml, hown, hts⟩ (kc_taskOf l D ad cI cT cJ X S t ht) (cwV 1 hts gX2_start_X2_taskOf rfl rfl rfl (by decide +kernel) ⟨Nat.le_of_ble_eq_true rfl, Nat.le_of_ble_eq_true rfl⟩) (fk_rvK hK hP) hK hP hD hS hA rfl hl.1 rfl (Nat.le_of_ble_eq_true rfl) dX2_start_2 ⟨Nat.le_of_ble_eq_true rfl, Nat.le_of_ble_eq_true rfl⟩ (fun H locs hP hD hS => ?_)
  refine W.eq (g2 := F0 m 5 ls [.ref (ad (3 + t))]) rfl ?_
  refine lv_astore_n (lv' := [(2, .ref (ad (3 + t))), (0, .ref (ad 0)), (1, .int (nI t))]) hx hb dX2_start_5 rfl hl (by decide) rfl (fun ls hl => ?_)
  refine lv_aload_n hx hb dX2_start_6 rfl (lv_at hl 0 rfl) ?_
  refine fk_getT hx hb hts hiX1 hown hK hP ht 2 (by decide) (v := .int (S 1 t)) rfl (List.mem_of_getElem? (i := 3) rfl) rfl dX2_start_7 ?_
  refine lv_iconst (v := 3) hx hb dX2_start_10 (by decide) ?_
  refine lv_icmp_eq (tgt := 24) hx hb dX2_start_11 (by decide) (fun c_1 => ?_) (fun c_1 => absurd h c_1)
  refine lv_aload_n hx hb dX2_start_24 rfl (lv_at hl 0 rfl) ?_
  refine lv_iconst (v := 0) hx hb dX2_start_25 (by decide) ?_
  refine fk_putT (v := 0) hx hb hts hiX1 hown hK hP hD hS ht 1 (by decide) (by decide) (by simp [fk_fT, fk_up]) (List.mem_of_getElem? (i := 3) rfl) rfl rfl (by decide +kernel) dX2_start_26 (fun H locs hP hD hS => ?_)
  refine lv_aload_n hx hb dX2_start_29 rfl (lv_at hl 0 rfl) ?_
  refine lv_iconst (v := 0) hx hb dX2_start_30 (by decide) ?_
  refine fk_putT (v := 0) hx hb hts hiX1 hown hK hP hD hS ht 2 (by decide) (by decide) (by simp [fk_fT, fk_up]) (List.mem_of_getElem? (i := 4) rfl) rfl rfl (by decide +kernel) dX2_start_31 (fun H locs hP hD hS => ?_)
  refine lv_aload_n hx hb dX2_start_34 rfl (lv_at hl 0 rfl) ?_
  refine lv_iconst (v := (-1)) hx hb dX2_start_35 (by decide) ?_
  refine fk_putT (v := (-1)) hx hb hts hiX1 hown hK hP hD hS ht 8 (by decide) (by decide) (by simp [fk_fT, fk_up]) (List.mem_of_getElem? (i := 5) rfl) rfl rfl (by decide +kernel) dX2_start_36 (fun H locs hP hD hS => ?_)
  refine lv_aload_n hx hb dX2_start_39 rfl (lv_at hl 0 rfl) ?_
  refine lv_iconst (v := 0) hx hb dX2_start_40 (by decide) ?_
  refine fk_putT (v := 0) hx hb hts hiX1 hown hK hP hD hS ht 9 (by decide) (by decide) (by simp [fk_fT, fk_up]) (List.mem_of_getElem? (i := 6) rfl) rfl rfl (by decide +kernel) dX2_start_41 (fun H locs hP hD hS => ?_)
  exact fk_vret hx hb hr hlocks hP hK hD hS (congrArg (fun z => fk_kW ad cI cT z ++ X) (by first | rfl | simp [c_1])) (by rfl) dX2_start_44

set_option maxHeartbeats 4000000 in
set_option maxRecDepth 100000 in
theorem kx_setPriority_1 (l : Launch) (D : va_G) (ad : Nat → Nat) (cI cT cJ : ClassId) (X : va_W) (S : fk_S) (hst : l.stackTraces = false) (th v : Int32) (h : fk_isT th = false) : fk_X l D (fk_ty cI cT cJ) yX2_setPriority wsX2_setPriority rx_pub [.ref (ad 0), .int th, .int v] (fk_kW ad cI cT S ++ X) "java/lang/IndexOutOfBoundsException" := by
  refine fk_X_of (cc := cX2_setPriority) (maxL := 5) (ret := (some .int)) (own := RX2) (by decide) rfl rfl (Nat.le_of_ble_eq_true rfl) ?_
  intro p e s m below meth c A ls hx hb hout hlocks hml hts hown hA hP hK hD hZ hl
  have hS : va_S A s.heap s.heap [] := va_S.rf
  have hl : lv_has ls 5 [(0, .ref (ad 0)), (1, .int th), (2, .int v)] := hl
  refine lv_aload_n hx hb dX2_setPriority_0 rfl (lv_at hl 0 rfl) ?_
  refine lv_iload_n hx hb dX2_setPriority_1 rfl (lv_at hl 1 rfl) ?_
  exact fk_xcallV (As := [.int th]) (rest := []) ⟨hx, hb, hml, hown, hts⟩ (kx_taskOf l D ad cI cT cJ X S hst th h) (cwV 1 hts gX2_setPriority_X2_taskOf rfl rfl rfl (by decide +kernel) ⟨Nat.le_of_ble_eq_true rfl, Nat.le_of_ble_eq_true rfl⟩) (fk_rvK hK hP) hK hP hD hS hA hZ rfl hl.1 rfl (Nat.le_of_ble_eq_true rfl) dX2_setPriority_2 ⟨Nat.le_of_ble_eq_true rfl, Nat.le_of_ble_eq_true rfl⟩ (fk_thru hout hlocks hK hD)

set_option maxHeartbeats 4000000 in
set_option maxRecDepth 100000 in
theorem kx_setPriority_2 (l : Launch) (D : va_G) (ad : Nat → Nat) (cI cT cJ : ClassId) (X : va_W) (S : fk_S) (hst : l.stackTraces = false) (t : Nat) (ht : t < 8) (v : Int32) (h : fk_btw v 0 9 = false) : fk_X l D (fk_ty cI cT cJ) yX2_setPriority wsX2_setPriority rx_pub [.ref (ad 0), .int (nI t), .int v] (fk_kW ad cI cT S ++ X) "java/lang/IllegalArgumentException" := by
  refine fk_X_of (cc := cX2_setPriority) (maxL := 5) (ret := (some .int)) (own := RX2) (by decide) rfl rfl (Nat.le_of_ble_eq_true rfl) ?_
  intro p e s m below meth c A ls hx hb hout hlocks hml hts hown hA hP hK hD hZ hl
  have hS : va_S A s.heap s.heap [] := va_S.rf
  have hl : lv_has ls 5 [(0, .ref (ad 0)), (1, .int (nI t)), (2, .int v)] := hl
  refine lv_aload_n hx hb dX2_setPriority_0 rfl (lv_at hl 0 rfl) ?_
  refine lv_iload_n hx hb dX2_setPriority_1 rfl (lv_at hl 1 rfl) ?_
  refine fk_callV (As := [.int (nI t)]) (rest := []) ⟨hx, hb, hml, hown, hts⟩ (kc_taskOf l D ad cI cT cJ X S t ht) (cwV 1 hts gX2_setPriority_X2_taskOf rfl rfl rfl (by decide +kernel) ⟨Nat.le_of_ble_eq_true rfl, Nat.le_of_ble_eq_true rfl⟩) (fk_rvK hK hP) hK hP hD hS hA rfl hl.1 rfl (Nat.le_of_ble_eq_true rfl) dX2_setPriority_2 ⟨Nat.le_of_ble_eq_true rfl, Nat.le_of_ble_eq_true rfl⟩ (fun H locs hP hD hS => ?_)
  refine W.eq (g2 := F0 m 5 ls [.ref (ad (3 + t))]) rfl ?_
  refine lv_astore_n (lv' := [(3, .ref (ad (3 + t))), (0, .ref (ad 0)), (1, .int (nI t)), (2, .int v)]) hx hb dX2_setPriority_5 rfl hl (by decide) rfl (fun ls hl => ?_)
  refine lv_iload_n hx hb dX2_setPriority_6 rfl (lv_at hl 3 rfl) ?_
  refine lv_iconst (v := 0) hx hb dX2_setPriority_7 (by decide) ?_
  refine lv_bipush (v := 9) hx hb dX2_setPriority_8 (by decide) ?_
  exact fk_xcallS (As := [.int v, .int 0, .int 9]) (rest := []) ⟨hx, hb, hml, hown, hts⟩ (kx_requireBetween l D ad cI cT cJ X S hst v 0 9 h) (va_cwS 3 hts gX2_setPriority_X2_requireBetween rfl rfl rfl (by decide +kernel) ⟨Nat.le_of_ble_eq_true rfl, Nat.le_of_ble_eq_true rfl⟩) hK hP hD hS hA hZ rfl hl.1 rfl (Nat.le_of_ble_eq_true rfl) dX2_setPriority_10 ⟨Nat.le_of_ble_eq_true rfl, Nat.le_of_ble_eq_true rfl⟩ (fk_thru hout hlocks hK hD)

set_option maxHeartbeats 4000000 in
set_option maxRecDepth 100000 in
theorem kx_setPriority_3 (l : Launch) (D : va_G) (ad : Nat → Nat) (cI cT cJ : ClassId) (X : va_W) (S : fk_S) (hst : l.stackTraces = false) (t : Nat) (ht : t < 8) (v : Int32) (hm0 : fk_btw v 0 9 = true) (h : S 1 t = 3) : fk_X l D (fk_ty cI cT cJ) yX2_setPriority wsX2_setPriority rx_pub [.ref (ad 0), .int (nI t), .int v] (fk_kW ad cI cT S ++ X) "java/lang/IllegalStateException" := by
  refine fk_X_of (cc := cX2_setPriority) (maxL := 5) (ret := (some .int)) (own := RX2) (by decide) rfl rfl (Nat.le_of_ble_eq_true rfl) ?_
  intro p e s m below meth c A ls hx hb hout hlocks hml hts hown hA hP hK hD hZ hl
  have hS : va_S A s.heap s.heap [] := va_S.rf
  have hl : lv_has ls 5 [(0, .ref (ad 0)), (1, .int (nI t)), (2, .int v)] := hl
  refine lv_aload_n hx hb dX2_setPriority_0 rfl (lv_at hl 0 rfl) ?_
  refine lv_iload_n hx hb dX2_setPriority_1 rfl (lv_at hl 1 rfl) ?_
  refine fk_callV (As := [.int (nI t)]) (rest := []) ⟨hx, hb, hml, hown, hts⟩ (kc_taskOf l D ad cI cT cJ X S t ht) (cwV 1 hts gX2_setPriority_X2_taskOf rfl rfl rfl (by decide +kernel) ⟨Nat.le_of_ble_eq_true rfl, Nat.le_of_ble_eq_true rfl⟩) (fk_rvK hK hP) hK hP hD hS hA rfl hl.1 rfl (Nat.le_of_ble_eq_true rfl) dX2_setPriority_2 ⟨Nat.le_of_ble_eq_true rfl, Nat.le_of_ble_eq_true rfl⟩ (fun H locs hP hD hS => ?_)
  refine W.eq (g2 := F0 m 5 ls [.ref (ad (3 + t))]) rfl ?_
  refine lv_astore_n (lv' := [(3, .ref (ad (3 + t))), (0, .ref (ad 0)), (1, .int (nI t)), (2, .int v)]) hx hb dX2_setPriority_5 rfl hl (by decide) rfl (fun ls hl => ?_)
  refine lv_iload_n hx hb dX2_setPriority_6 rfl (lv_at hl 3 rfl) ?_
  refine lv_iconst (v := 0) hx hb dX2_setPriority_7 (by decide) ?_
  refine lv_bipush (v := 9) hx hb dX2_setPriority_8 (by decide) ?_
  refine fk_callS (As := [.int v, .int 0, .int 9]) (rest := []) ⟨hx, hb, hml, hown, hts⟩ (kc_requireBetween l D ad cI cT cJ X S v 0 9 hm0) (va_cwS 3 hts gX2_setPriority_X2_requireBetween rfl rfl rfl (by decide +kernel) ⟨Nat.le_of_ble_eq_true rfl, Nat.le_of_ble_eq_true rfl⟩) hK hP hD hS hA rfl hl.1 rfl (Nat.le_of_ble_eq_true rfl) dX2_setPriority_10 ⟨Nat.le_of_ble_eq_true rfl, Nat.le_of_ble_eq_true rfl⟩ (fun H locs hP hD hS => ?_)
  refine W.eq (g2 := F0 m 13 ls []) rfl ?_
  refine lv_aload_n hx hb dX2_setPriority_13 rfl (lv_at hl 0 rfl) ?_
  exact fk_xcallS (As := [.ref (ad (3 + t))]) (rest := []) ⟨hx, hb, hml, hown, hts⟩ (kx_requireAlive l D ad cI cT cJ X S hst t ht h) (va_cwS 1 hts gX2_setPriority_X2_requireAlive rfl rfl rfl (by decide +kernel) ⟨Nat.le_of_ble_eq_true rfl, Nat.le_of_ble_eq_true rfl⟩) hK hP hD hS hA hZ rfl hl.1 rfl (Nat.le_of_ble_eq_true rfl) dX2_setPriority_14 ⟨Nat.le_of_ble_eq_true rfl, Nat.le_of_ble_eq_true rfl⟩ (fk_thru hout hlocks hK hD)

abbrev rmX2_setPriority : Room := { frames := 1, cells := 0, slots := 0, locals := 22 }
set_option maxHeartbeats 4000000 in
set_option maxRecDepth 100000 in
theorem kc_setPriority (l : Launch) (D : va_G) (ad : Nat → Nat) (cI cT cJ : ClassId) (X : va_W) (S : fk_S) (t : Nat) (ht : t < 8) (v : Int32) (hm0 : fk_btw v 0 9 = true) (h : ¬ S 1 t = 3) : fk_C l D (fk_ty cI cT cJ) yX2_setPriority wsX2_setPriority rmX2_setPriority [.ref (ad 0), .int (nI t), .int v] (fk_kW ad cI cT S ++ X) (some (.int (S 2 t))) (fk_kW ad cI cT (kk_prio S t v) ++ X) := by
  refine fk_C_of (cc := cX2_setPriority) (maxL := 5) (ret := (some .int)) (own := RX2) (by decide) rfl rfl (Nat.le_of_ble_eq_true rfl) ?_
  intro p e s m below meth c A ls hx hb hr hlocks hml hts hown hA hP hK hD hl
  have hS : va_S A s.heap s.heap [] := va_S.rf
  have hl : lv_has ls 5 [(0, .ref (ad 0)), (1, .int (nI t)), (2, .int v)] := hl
  have hiX1 : ∀ w ∈ u_ws RX1 TX1 11, w ∈ wsX2_setPriority := by decide +kernel
  refine lv_aload_n hx hb dX2_setPriority_0 rfl (lv_at hl 0 rfl) ?_
  refine lv_iload_n hx hb dX2_setPriority_1 rfl (lv_at hl 1 rfl) ?_
  refine fk_callV (As := [.int (nI t)]) (rest := []) ⟨hx, hb, hml, hown, hts⟩ (kc_taskOf l D ad cI cT cJ X S t ht) (cwV 1 hts gX2_setPriority_X2_taskOf rfl rfl rfl (by decide +kernel) ⟨Nat.le_of_ble_eq_true rfl, Nat.le_of_ble_eq_true rfl⟩) (fk_rvK hK hP) hK hP hD hS hA rfl hl.1 rfl (Nat.le_of_ble_eq_true rfl) dX2_setPriority_2 ⟨Nat.le_of_ble_eq_true rfl, Nat.le_of_ble_eq_true rfl⟩ (fun H locs hP hD hS => ?_)
  refine W.eq (g2 := F0 m 5 ls [.ref (ad (3 + t))]) rfl ?_
  refine lv_astore_n (lv' := [(3, .ref (ad (3 + t))), (0, .ref (ad 0)), (1, .int (nI t)), (2, .int v)]) hx hb dX2_setPriority_5 rfl hl (by decide) rfl (fun ls hl => ?_)
  refine lv_iload_n hx hb dX2_setPriority_6 rfl (lv_at hl 3 rfl) ?_
  refine lv_iconst (v := 0) hx hb dX2_setPriority_7 (by decide) ?_
  refine lv_bipush (v := 9) hx hb dX2_setPriority_8 (by decide) ?_
  refine fk_callS (As := [.int v, .int 0, .int 9]) (rest := []) ⟨hx, hb, hml, hown, hts⟩ (kc_requireBetween l D ad cI cT cJ X S v 0 9 hm0) (va_cwS 3 hts gX2_setPriority_X2_requireBetween rfl rfl rfl (by decide +kernel) ⟨Nat.le_of_ble_eq_true rfl, Nat.le_of_ble_eq_true rfl⟩) hK hP hD hS hA rfl hl.1 rfl (Nat.le_of_ble_eq_true rfl) dX2_setPriority_10 ⟨Nat.le_of_ble_eq_true rfl, Nat.le_of_ble_eq_true rfl⟩ (fun H locs hP hD hS => ?_)
  refine W.eq (g2 := F0 m 13 ls []) rfl ?_
  refine lv_aload_n hx hb dX2_setPriority_13 rfl (lv_at hl 0 rfl) ?_
  refine fk_callS (As := [.ref (ad (3 + t))]) (rest := []) ⟨hx, hb, hml, hown, hts⟩ (kc_requireAlive l D ad cI cT cJ X S t ht h) (va_cwS 1 hts gX2_setPriority_X2_requireAlive rfl rfl rfl (by decide +kernel) ⟨Nat.le_of_ble_eq_true rfl, Nat.le_of_ble_eq_true rfl⟩) hK hP hD hS hA rfl hl.1 rfl (Nat.le_of_ble_eq_true rfl) dX2_setPriority_14 ⟨Nat.le_of_ble_eq_true rfl, Nat.le_of_ble_eq_true rfl⟩ (fun H locs hP hD hS => ?_)
  refine W.eq (g2 := F0 m 17 ls []) rfl ?_
  refine lv_aload_n hx hb dX2_setPriority_17 rfl (lv_at hl 0 rfl) ?_
  refine fk_getT hx hb hts hiX1 hown hK hP ht 3 (by decide) (v := .int (S 2 t)) rfl (List.mem_of_getElem? (i := 1) rfl) rfl dX2_setPriority_18 ?_
  refine lv_istore (lv' := [(4, .int (S 2 t)), (3, .ref (ad (3 + t))), (0, .ref (ad 0)), (1, .int (nI t)), (2, .int v)]) hx hb dX2_setPriority_21 hl (by decide) rfl (fun ls hl => ?_)
  refine lv_iload_n hx hb dX2_setPriority_23 rfl (lv_at hl 4 rfl) ?_
  refine lv_iload hx hb dX2_setPriority_24 (lv_at hl 0 rfl) ?_
  refine lv_icmp_eq (tgt := 50) hx hb dX2_setPriority_26 (by decide) (fun c_1 => ?_) (fun c_1 => ?_)
  · refine lv_iload hx hb dX2_setPriority_50 (lv_at hl 0 rfl) ?_
    exact fk_iret hx hb hr hlocks hP hK hD hS (congrArg (fun z => fk_kW ad cI cT z ++ X) (by first | rfl | simp [kk_prio, c_1])) (by rfl) dX2_setPriority_52
  · refine lv_aload_n hx hb dX2_setPriority_29 rfl (lv_at hl 1 rfl) ?_
    refine lv_iload_n hx hb dX2_setPriority_30 rfl (lv_at hl 4 rfl) ?_
    refine fk_putT (v := v) hx hb hts hiX1 hown hK hP hD hS ht 2 (by decide) (by decide) (by simp [fk_fT, fk_up]) (List.mem_of_getElem? (i := 1) rfl) rfl rfl (by decide +kernel) dX2_setPriority_31 (fun H locs hP hD hS => ?_)
    refine lv_aload_n hx hb dX2_setPriority_34 rfl (lv_at hl 1 rfl) ?_
    refine fk_callV (As := []) (rest := []) ⟨hx, hb, hml, hown, hts⟩ (kc_isQueued l D ad cI cT cJ X (fk_up S 2 t v) t ht) (cwV 0 hts gX2_setPriority_X1_isQueued rfl rfl rfl (by decide +kernel) ⟨Nat.le_of_ble_eq_true rfl, Nat.le_of_ble_eq_true rfl⟩) (fk_rvT hK hP ht) hK hP hD hS hA rfl hl.1 rfl (Nat.le_of_ble_eq_true rfl) dX2_setPriority_35 ⟨Nat.le_of_ble_eq_true rfl, Nat.le_of_ble_eq_true rfl⟩ (fun H locs hP hD hS => ?_)
    cases b_2 : kk_q (fk_up S 2 t v) t with
    | true =>
      refine W.eq (g2 := F0 m 38 ls [.int 1]) (by first | rfl | (rw [b_2]; rfl)) ?_
      refine lv_if_eq (tgt := 50) hx hb dX2_setPriority_38 (by decide) (fun c => absurd c (by decide)) (fun _ => ?_)
      refine lv_aload_n hx hb dX2_setPriority_41 rfl (lv_at hl 2 rfl) ?_
      refine lv_aload_n hx hb dX2_setPriority_42 rfl (lv_at hl 1 rfl) ?_
      refine lv_aload_n hx hb dX2_setPriority_43 rfl (lv_at hl 1 rfl) ?_
      refine fk_getT hx hb hts hiX1 hown hK hP ht 4 (by decide) (v := .int (S 3 t)) (by simp [fk_fT, fk_up]) (List.mem_of_getElem? (i := 2) rfl) rfl dX2_setPriority_44 ?_
      refine fk_callV (As := [.ref (ad (3 + t)), .int (S 3 t)]) (rest := []) ⟨hx, hb, hml, hown, hts⟩ (kc_joinQueue l D ad cI cT cJ X (fk_up S 2 t v) t (S 3 t) ht) (cwV 2 hts gX2_setPriority_X2_joinQueue rfl rfl rfl (by decide +kernel) ⟨Nat.le_of_ble_eq_true rfl, Nat.le_of_ble_eq_true rfl⟩) (fk_rvK hK hP) hK hP hD hS hA rfl hl.1 rfl (Nat.le_of_ble_eq_true rfl) dX2_setPriority_47 ⟨Nat.le_of_ble_eq_true rfl, Nat.le_of_ble_eq_true rfl⟩ (fun H locs hP hD hS => ?_)
      refine W.eq (g2 := F0 m 50 ls []) rfl ?_
      refine lv_iload hx hb dX2_setPriority_50 (lv_at hl 0 rfl) ?_
      exact fk_iret hx hb hr hlocks hP hK hD hS (congrArg (fun z => fk_kW ad cI cT z ++ X) (by first | rfl | simp [kk_prio, c_1, b_2])) (by rfl) dX2_setPriority_52
    | false =>
      refine W.eq (g2 := F0 m 38 ls [.int 0]) (by first | rfl | (rw [b_2]; rfl)) ?_
      refine lv_if_eq (tgt := 50) hx hb dX2_setPriority_38 (by decide) (fun _ => ?_) (fun c => absurd c (by decide))
      refine lv_iload hx hb dX2_setPriority_50 (lv_at hl 0 rfl) ?_
      exact fk_iret hx hb hr hlocks hP hK hD hS (congrArg (fun z => fk_kW ad cI cT z ++ X) (by first | rfl | simp [kk_prio, c_1, b_2])) (by rfl) dX2_setPriority_52

set_option maxHeartbeats 4000000 in
set_option maxRecDepth 100000 in
theorem kx_stateOf_1 (l : Launch) (D : va_G) (ad : Nat → Nat) (cI cT cJ : ClassId) (X : va_W) (S : fk_S) (hst : l.stackTraces = false) (th : Int32) (h : fk_isT th = false) : fk_X l D (fk_ty cI cT cJ) yX2_stateOf wsX2_stateOf rx_pub [.ref (ad 0), .int th] (fk_kW ad cI cT S ++ X) "java/lang/IndexOutOfBoundsException" := by
  refine fk_X_of (cc := cX2_stateOf) (maxL := 2) (ret := (some .int)) (own := RX2) (by decide) rfl rfl (Nat.le_of_ble_eq_true rfl) ?_
  intro p e s m below meth c A ls hx hb hout hlocks hml hts hown hA hP hK hD hZ hl
  have hS : va_S A s.heap s.heap [] := va_S.rf
  have hl : lv_has ls 2 [(0, .ref (ad 0)), (1, .int th)] := hl
  refine lv_aload_n hx hb dX2_stateOf_0 rfl (lv_at hl 0 rfl) ?_
  refine lv_iload_n hx hb dX2_stateOf_1 rfl (lv_at hl 1 rfl) ?_
  exact fk_xcallV (As := [.int th]) (rest := []) ⟨hx, hb, hml, hown, hts⟩ (kx_taskOf l D ad cI cT cJ X S hst th h) (cwV 1 hts gX2_stateOf_X2_taskOf rfl rfl rfl (by decide +kernel) ⟨Nat.le_of_ble_eq_true rfl, Nat.le_of_ble_eq_true rfl⟩) (fk_rvK hK hP) hK hP hD hS hA hZ rfl hl.1 rfl (Nat.le_of_ble_eq_true rfl) dX2_stateOf_2 ⟨Nat.le_of_ble_eq_true rfl, Nat.le_of_ble_eq_true rfl⟩ (fk_thru hout hlocks hK hD)

abbrev rmX2_stateOf : Room := { frames := 1, cells := 0, slots := 0, locals := 21 }
set_option maxHeartbeats 4000000 in
set_option maxRecDepth 100000 in
theorem kc_stateOf (l : Launch) (D : va_G) (ad : Nat → Nat) (cI cT cJ : ClassId) (X : va_W) (S : fk_S) (t : Nat) (ht : t < 8) : fk_C l D (fk_ty cI cT cJ) yX2_stateOf wsX2_stateOf rmX2_stateOf [.ref (ad 0), .int (nI t)] (fk_kW ad cI cT S ++ X) (some (.int (S 1 t))) (fk_kW ad cI cT S ++ X) := by
  refine fk_C_of (cc := cX2_stateOf) (maxL := 2) (ret := (some .int)) (own := RX2) (by decide) rfl rfl (Nat.le_of_ble_eq_true rfl) ?_
  intro p e s m below meth c A ls hx hb hr hlocks hml hts hown hA hP hK hD hl
  have hS : va_S A s.heap s.heap [] := va_S.rf
  have hl : lv_has ls 2 [(0, .ref (ad 0)), (1, .int (nI t))] := hl
  have hiX1 : ∀ w ∈ u_ws RX1 TX1 11, w ∈ wsX2_stateOf := by decide +kernel
  refine lv_aload_n hx hb dX2_stateOf_0 rfl (lv_at hl 0 rfl) ?_
  refine lv_iload_n hx hb dX2_stateOf_1 rfl (lv_at hl 1 rfl) ?_
  refine fk_callV (As := [.int (nI t)]) (rest := []) ⟨hx, hb, hml, hown, hts⟩ (kc_taskOf l D ad cI cT cJ X S t ht) (cwV 1 hts gX2_stateOf_X2_taskOf rfl rfl rfl (by decide +kernel) ⟨Nat.le_of_ble_eq_true rfl, Nat.le_of_ble_eq_true rfl⟩) (fk_rvK hK hP) hK hP hD hS hA rfl hl.1 rfl (Nat.le_of_ble_eq_true rfl) dX2_stateOf_2 ⟨Nat.le_of_ble_eq_true rfl, Nat.le_of_ble_eq_true rfl⟩ (fun H locs hP hD hS => ?_)
  refine W.eq (g2 := F0 m 5 ls [.ref (ad (3 + t))]) rfl ?_
  refine fk_getT hx hb hts hiX1 hown hK hP ht 2 (by decide) (v := .int (S 1 t)) rfl (List.mem_of_getElem? (i := 1) rfl) rfl dX2_stateOf_5 ?_
  exact fk_iret hx hb hr hlocks hP hK hD hS (congrArg (fun z => fk_kW ad cI cT z ++ X) (by first | rfl | simp [])) (by rfl) dX2_stateOf_8

set_option maxHeartbeats 4000000 in
set_option maxRecDepth 100000 in
theorem kx_addressOf_1 (l : Launch) (D : va_G) (ad : Nat → Nat) (cI cT cJ : ClassId) (X : va_W) (S : fk_S) (hst : l.stackTraces = false) (th : Int32) (h : fk_isT th = false) : fk_X l D (fk_ty cI cT cJ) yX2_addressOf wsX2_addressOf rx_pub [.ref (ad 0), .int th] (fk_kW ad cI cT S ++ X) "java/lang/IndexOutOfBoundsException" := by
  refine fk_X_of (cc := cX2_addressOf) (maxL := 2) (ret := (some .int)) (own := RX2) (by decide) rfl rfl (Nat.le_of_ble_eq_true rfl) ?_
  intro p e s m below meth c A ls hx hb hout hlocks hml hts hown hA hP hK hD hZ hl
  have hS : va_S A s.heap s.heap [] := va_S.rf
  have hl : lv_has ls 2 [(0, .ref (ad 0)), (1, .int th)] := hl
  refine lv_aload_n hx hb dX2_addressOf_0 rfl (lv_at hl 0 rfl) ?_
  refine lv_iload_n hx hb dX2_addressOf_1 rfl (lv_at hl 1 rfl) ?_
  exact fk_xcallV (As := [.int th]) (rest := []) ⟨hx, hb, hml, hown, hts⟩ (kx_taskOf l D ad cI cT cJ X S hst th h) (cwV 1 hts gX2_addressOf_X2_taskOf rfl rfl rfl (by decide +kernel) ⟨Nat.le_of_ble_eq_true rfl, Nat.le_of_ble_eq_true rfl⟩) (fk_rvK hK hP) hK hP hD hS hA hZ rfl hl.1 rfl (Nat.le_of_ble_eq_true rfl) dX2_addressOf_2 ⟨Nat.le_of_ble_eq_true rfl, Nat.le_of_ble_eq_true rfl⟩ (fk_thru hout hlocks hK hD)

abbrev rmX2_addressOf : Room := { frames := 1, cells := 0, slots := 0, locals := 21 }
set_option maxHeartbeats 4000000 in
set_option maxRecDepth 100000 in
theorem kc_addressOf (l : Launch) (D : va_G) (ad : Nat → Nat) (cI cT cJ : ClassId) (X : va_W) (S : fk_S) (t : Nat) (ht : t < 8) : fk_C l D (fk_ty cI cT cJ) yX2_addressOf wsX2_addressOf rmX2_addressOf [.ref (ad 0), .int (nI t)] (fk_kW ad cI cT S ++ X) (some (.int (S 3 t))) (fk_kW ad cI cT S ++ X) := by
  refine fk_C_of (cc := cX2_addressOf) (maxL := 2) (ret := (some .int)) (own := RX2) (by decide) rfl rfl (Nat.le_of_ble_eq_true rfl) ?_
  intro p e s m below meth c A ls hx hb hr hlocks hml hts hown hA hP hK hD hl
  have hS : va_S A s.heap s.heap [] := va_S.rf
  have hl : lv_has ls 2 [(0, .ref (ad 0)), (1, .int (nI t))] := hl
  have hiX1 : ∀ w ∈ u_ws RX1 TX1 11, w ∈ wsX2_addressOf := by decide +kernel
  refine lv_aload_n hx hb dX2_addressOf_0 rfl (lv_at hl 0 rfl) ?_
  refine lv_iload_n hx hb dX2_addressOf_1 rfl (lv_at hl 1 rfl) ?_
  refine fk_callV (As := [.int (nI t)]) (rest := []) ⟨hx, hb, hml, hown, hts⟩ (kc_taskOf l D ad cI cT cJ X S t ht) (cwV 1 hts gX2_addressOf_X2_taskOf rfl rfl rfl (by decide +kernel) ⟨Nat.le_of_ble_eq_true rfl, Nat.le_of_ble_eq_true rfl⟩) (fk_rvK hK hP) hK hP hD hS hA rfl hl.1 rfl (Nat.le_of_ble_eq_true rfl) dX2_addressOf_2 ⟨Nat.le_of_ble_eq_true rfl, Nat.le_of_ble_eq_true rfl⟩ (fun H locs hP hD hS => ?_)
  refine W.eq (g2 := F0 m 5 ls [.ref (ad (3 + t))]) rfl ?_
  refine fk_getT hx hb hts hiX1 hown hK hP ht 4 (by decide) (v := .int (S 3 t)) rfl (List.mem_of_getElem? (i := 1) rfl) rfl dX2_addressOf_5 ?_
  exact fk_iret hx hb hr hlocks hP hK hD hS (congrArg (fun z => fk_kW ad cI cT z ++ X) (by first | rfl | simp [])) (by rfl) dX2_addressOf_8

set_option maxHeartbeats 4000000 in
set_option maxRecDepth 100000 in
theorem kx_resultOf_1 (l : Launch) (D : va_G) (ad : Nat → Nat) (cI cT cJ : ClassId) (X : va_W) (S : fk_S) (hst : l.stackTraces = false) (th : Int32) (h : fk_isT th = false) : fk_X l D (fk_ty cI cT cJ) yX2_resultOf wsX2_resultOf rx_pub [.ref (ad 0), .int th] (fk_kW ad cI cT S ++ X) "java/lang/IndexOutOfBoundsException" := by
  refine fk_X_of (cc := cX2_resultOf) (maxL := 2) (ret := (some .int)) (own := RX2) (by decide) rfl rfl (Nat.le_of_ble_eq_true rfl) ?_
  intro p e s m below meth c A ls hx hb hout hlocks hml hts hown hA hP hK hD hZ hl
  have hS : va_S A s.heap s.heap [] := va_S.rf
  have hl : lv_has ls 2 [(0, .ref (ad 0)), (1, .int th)] := hl
  refine lv_aload_n hx hb dX2_resultOf_0 rfl (lv_at hl 0 rfl) ?_
  refine lv_iload_n hx hb dX2_resultOf_1 rfl (lv_at hl 1 rfl) ?_
  exact fk_xcallV (As := [.int th]) (rest := []) ⟨hx, hb, hml, hown, hts⟩ (kx_taskOf l D ad cI cT cJ X S hst th h) (cwV 1 hts gX2_resultOf_X2_taskOf rfl rfl rfl (by decide +kernel) ⟨Nat.le_of_ble_eq_true rfl, Nat.le_of_ble_eq_true rfl⟩) (fk_rvK hK hP) hK hP hD hS hA hZ rfl hl.1 rfl (Nat.le_of_ble_eq_true rfl) dX2_resultOf_2 ⟨Nat.le_of_ble_eq_true rfl, Nat.le_of_ble_eq_true rfl⟩ (fk_thru hout hlocks hK hD)

abbrev rmX2_resultOf : Room := { frames := 1, cells := 0, slots := 0, locals := 21 }
set_option maxHeartbeats 4000000 in
set_option maxRecDepth 100000 in
theorem kc_resultOf (l : Launch) (D : va_G) (ad : Nat → Nat) (cI cT cJ : ClassId) (X : va_W) (S : fk_S) (t : Nat) (ht : t < 8) : fk_C l D (fk_ty cI cT cJ) yX2_resultOf wsX2_resultOf rmX2_resultOf [.ref (ad 0), .int (nI t)] (fk_kW ad cI cT S ++ X) (some (.int (S 8 t))) (fk_kW ad cI cT S ++ X) := by
  refine fk_C_of (cc := cX2_resultOf) (maxL := 2) (ret := (some .int)) (own := RX2) (by decide) rfl rfl (Nat.le_of_ble_eq_true rfl) ?_
  intro p e s m below meth c A ls hx hb hr hlocks hml hts hown hA hP hK hD hl
  have hS : va_S A s.heap s.heap [] := va_S.rf
  have hl : lv_has ls 2 [(0, .ref (ad 0)), (1, .int (nI t))] := hl
  have hiX1 : ∀ w ∈ u_ws RX1 TX1 11, w ∈ wsX2_resultOf := by decide +kernel
  refine lv_aload_n hx hb dX2_resultOf_0 rfl (lv_at hl 0 rfl) ?_
  refine lv_iload_n hx hb dX2_resultOf_1 rfl (lv_at hl 1 rfl) ?_
  refine fk_callV (As := [.int (nI t)]) (rest := []) ⟨hx, hb, hml, hown, hts⟩ (kc_taskOf l D ad cI cT cJ X S t ht) (cwV 1 hts gX2_resultOf_X2_taskOf rfl rfl rfl (by decide +kernel) ⟨Nat.le_of_ble_eq_true rfl, Nat.le_of_ble_eq_true rfl⟩) (fk_rvK hK hP) hK hP hD hS hA rfl hl.1 rfl (Nat.le_of_ble_eq_true rfl) dX2_resultOf_2 ⟨Nat.le_of_ble_eq_true rfl, Nat.le_of_ble_eq_true rfl⟩ (fun H locs hP hD hS => ?_)
  refine W.eq (g2 := F0 m 5 ls [.ref (ad (3 + t))]) rfl ?_
  refine fk_getT hx hb hts hiX1 hown hK hP ht 9 (by decide) (v := .int (S 8 t)) rfl (List.mem_of_getElem? (i := 1) rfl) rfl dX2_resultOf_5 ?_
  exact fk_iret hx hb hr hlocks hP hK hD hS (congrArg (fun z => fk_kW ad cI cT z ++ X) (by first | rfl | simp [])) (by rfl) dX2_resultOf_8

set_option maxHeartbeats 4000000 in
set_option maxRecDepth 100000 in
theorem kx_serialOf_1 (l : Launch) (D : va_G) (ad : Nat → Nat) (cI cT cJ : ClassId) (X : va_W) (S : fk_S) (hst : l.stackTraces = false) (th : Int32) (h : fk_isT th = false) : fk_X l D (fk_ty cI cT cJ) yX2_serialOf wsX2_serialOf rx_pub [.ref (ad 0), .int th] (fk_kW ad cI cT S ++ X) "java/lang/IndexOutOfBoundsException" := by
  refine fk_X_of (cc := cX2_serialOf) (maxL := 2) (ret := (some .int)) (own := RX2) (by decide) rfl rfl (Nat.le_of_ble_eq_true rfl) ?_
  intro p e s m below meth c A ls hx hb hout hlocks hml hts hown hA hP hK hD hZ hl
  have hS : va_S A s.heap s.heap [] := va_S.rf
  have hl : lv_has ls 2 [(0, .ref (ad 0)), (1, .int th)] := hl
  refine lv_aload_n hx hb dX2_serialOf_0 rfl (lv_at hl 0 rfl) ?_
  refine lv_iload_n hx hb dX2_serialOf_1 rfl (lv_at hl 1 rfl) ?_
  exact fk_xcallV (As := [.int th]) (rest := []) ⟨hx, hb, hml, hown, hts⟩ (kx_taskOf l D ad cI cT cJ X S hst th h) (cwV 1 hts gX2_serialOf_X2_taskOf rfl rfl rfl (by decide +kernel) ⟨Nat.le_of_ble_eq_true rfl, Nat.le_of_ble_eq_true rfl⟩) (fk_rvK hK hP) hK hP hD hS hA hZ rfl hl.1 rfl (Nat.le_of_ble_eq_true rfl) dX2_serialOf_2 ⟨Nat.le_of_ble_eq_true rfl, Nat.le_of_ble_eq_true rfl⟩ (fk_thru hout hlocks hK hD)

abbrev rmX2_serialOf : Room := { frames := 1, cells := 0, slots := 0, locals := 21 }
set_option maxHeartbeats 4000000 in
set_option maxRecDepth 100000 in
theorem kc_serialOf (l : Launch) (D : va_G) (ad : Nat → Nat) (cI cT cJ : ClassId) (X : va_W) (S : fk_S) (t : Nat) (ht : t < 8) : fk_C l D (fk_ty cI cT cJ) yX2_serialOf wsX2_serialOf rmX2_serialOf [.ref (ad 0), .int (nI t)] (fk_kW ad cI cT S ++ X) (some (.int (S 9 t))) (fk_kW ad cI cT S ++ X) := by
  refine fk_C_of (cc := cX2_serialOf) (maxL := 2) (ret := (some .int)) (own := RX2) (by decide) rfl rfl (Nat.le_of_ble_eq_true rfl) ?_
  intro p e s m below meth c A ls hx hb hr hlocks hml hts hown hA hP hK hD hl
  have hS : va_S A s.heap s.heap [] := va_S.rf
  have hl : lv_has ls 2 [(0, .ref (ad 0)), (1, .int (nI t))] := hl
  have hiX1 : ∀ w ∈ u_ws RX1 TX1 11, w ∈ wsX2_serialOf := by decide +kernel
  refine lv_aload_n hx hb dX2_serialOf_0 rfl (lv_at hl 0 rfl) ?_
  refine lv_iload_n hx hb dX2_serialOf_1 rfl (lv_at hl 1 rfl) ?_
  refine fk_callV (As := [.int (nI t)]) (rest := []) ⟨hx, hb, hml, hown, hts⟩ (kc_taskOf l D ad cI cT cJ X S t ht) (cwV 1 hts gX2_serialOf_X2_taskOf rfl rfl rfl (by decide +kernel) ⟨Nat.le_of_ble_eq_true rfl, Nat.le_of_ble_eq_true rfl⟩) (fk_rvK hK hP) hK hP hD hS hA rfl hl.1 rfl (Nat.le_of_ble_eq_true rfl) dX2_serialOf_2 ⟨Nat.le_of_ble_eq_true rfl, Nat.le_of_ble_eq_true rfl⟩ (fun H locs hP hD hS => ?_)
  refine W.eq (g2 := F0 m 5 ls [.ref (ad (3 + t))]) rfl ?_
  refine fk_getT hx hb hts hiX1 hown hK hP ht 10 (by decide) (v := .int (S 9 t)) rfl (List.mem_of_getElem? (i := 1) rfl) rfl dX2_serialOf_5 ?_
  exact fk_iret hx hb hr hlocks hP hK hD hS (congrArg (fun z => fk_kW ad cI cT z ++ X) (by first | rfl | simp [])) (by rfl) dX2_serialOf_8

abbrev rmX2_now : Room := { frames := 0, cells := 0, slots := 0, locals := 0 }
set_option maxHeartbeats 4000000 in
set_option maxRecDepth 100000 in
theorem kc_now (l : Launch) (D : va_G) (ad : Nat → Nat) (cI cT cJ : ClassId) (X : va_W) (S : fk_S)  : fk_C l D (fk_ty cI cT cJ) yX2_now wsX2_now rmX2_now [.ref (ad 0)] (fk_kW ad cI cT S ++ X) (some (.int (S 12 0))) (fk_kW ad cI cT S ++ X) := by
  refine fk_C_of (cc := cX2_now) (maxL := 1) (ret := (some .int)) (own := RX2) (by decide) rfl rfl (Nat.le_of_ble_eq_true rfl) ?_
  intro p e s m below meth c A ls hx hb hr hlocks hml hts hown hA hP hK hD hl
  have hS : va_S A s.heap s.heap [] := va_S.rf
  have hl : lv_has ls 1 [(0, .ref (ad 0))] := hl
  have hiX2 : ∀ w ∈ u_ws RX2 TX2 6, w ∈ wsX2_now := by decide +kernel
  refine lv_aload_n hx hb dX2_now_0 rfl (lv_at hl 0 rfl) ?_
  refine fk_getK hx hb hts hiX2 hown hK hP 2 (by decide) (v := .int (S 12 0)) rfl (List.mem_of_getElem? (i := 1) rfl) rfl dX2_now_1 ?_
  exact fk_iret hx hb hr hlocks hP hK hD hS (congrArg (fun z => fk_kW ad cI cT z ++ X) (by first | rfl | simp [])) (by rfl) dX2_now_4

abbrev rmX2_nextTimeout : Room := { frames := 2, cells := 0, slots := 0, locals := 46 }
set_option maxHeartbeats 4000000 in
set_option maxRecDepth 100000 in
theorem kc_nextTimeout (l : Launch) (D : va_G) (ad : Nat → Nat) (cI cT cJ : ClassId) (X : va_W) (S : fk_S)  : fk_C l D (fk_ty cI cT cJ) yX2_nextTimeout wsX2_nextTimeout rmX2_nextTimeout [.ref (ad 0)] (fk_kW ad cI cT S ++ X) (some (.int (kk_nextR S))) (fk_kW ad cI cT S ++ X) := by
  refine fk_C_of (cc := cX2_nextTimeout) (maxL := 2) (ret := (some .int)) (own := RX2) (by decide) rfl rfl (Nat.le_of_ble_eq_true rfl) ?_
  intro p e s m below meth c A ls hx hb hr hlocks hml hts hown hA hP hK hD hl
  have hS : va_S A s.heap s.heap [] := va_S.rf
  have hl : lv_has ls 2 [(0, .ref (ad 0))] := hl
  have hiX1 : ∀ w ∈ u_ws RX1 TX1 11, w ∈ wsX2_nextTimeout := by decide +kernel
  have hiX2 : ∀ w ∈ u_ws RX2 TX2 6, w ∈ wsX2_nextTimeout := by decide +kernel
  refine lv_aload_n hx hb dX2_nextTimeout_0 rfl (lv_at hl 0 rfl) ?_
  refine fk_callV (As := []) (rest := []) ⟨hx, hb, hml, hown, hts⟩ (kc_firstToTimeOut l D ad cI cT cJ X S) (cwV 0 hts gX2_nextTimeout_X2_firstToTimeOut rfl rfl rfl (by decide +kernel) ⟨Nat.le_of_ble_eq_true rfl, Nat.le_of_ble_eq_true rfl⟩) (fk_rvK hK hP) hK hP hD hS hA rfl hl.1 rfl (Nat.le_of_ble_eq_true rfl) dX2_nextTimeout_1 ⟨Nat.le_of_ble_eq_true rfl, Nat.le_of_ble_eq_true rfl⟩ (fun H locs hP hD hS => ?_)
  rcases o_1 : kk_next S with _ | u2
  · refine W.eq (g2 := F0 m 4 ls [.null]) (by first | rfl | (rw [o_1]; rfl)) ?_
    refine lv_astore_nN (lv' := [(1, .null), (0, .ref (ad 0))]) hx hb dX2_nextTimeout_4 rfl hl (by decide) rfl (fun ls hl => ?_)
    refine lv_aload_nN hx hb dX2_nextTimeout_5 rfl (lv_at hl 0 rfl) ?_
    refine lv_ifnonnullN hx hb dX2_nextTimeout_6 ?_
    refine lv_iconst (v := (-1)) hx hb dX2_nextTimeout_9 (by decide) ?_
    refine lv_goto (tgt := 22) hx hb dX2_nextTimeout_10 (by decide) ?_
    exact fk_iret hx hb hr hlocks hP hK hD hS (congrArg (fun z => fk_kW ad cI cT z ++ X) (by first | rfl | simp [o_1])) (by first | rfl | simp [kk_nextR, o_1]) dX2_nextTimeout_22
  · have hu_3 : u2 < 8 := kk_next_lt o_1
    refine W.eq (g2 := F0 m 4 ls [.ref (ad (3 + u2))]) (by first | rfl | (rw [o_1]; rfl)) ?_
    refine lv_astore_n (lv' := [(1, .ref (ad (3 + u2))), (0, .ref (ad 0))]) hx hb dX2_nextTimeout_4 rfl hl (by decide) rfl (fun ls hl => ?_)
    refine lv_aload_n hx hb dX2_nextTimeout_5 rfl (lv_at hl 0 rfl) ?_
    refine lv_ifnonnull (tgt := 13) hx hb dX2_nextTimeout_6 (by decide) ?_
    refine lv_aload_n hx hb dX2_nextTimeout_13 rfl (lv_at hl 0 rfl) ?_
    refine fk_getT hx hb hts hiX1 hown hK hP hu_3 6 (by decide) (v := .int (S 5 u2)) rfl (List.mem_of_getElem? (i := 1) rfl) rfl dX2_nextTimeout_14 ?_
    refine lv_aload_n hx hb dX2_nextTimeout_17 rfl (lv_at hl 1 rfl) ?_
    refine fk_getK hx hb hts hiX2 hown hK hP 2 (by decide) (v := .int (S 12 0)) rfl (List.mem_of_getElem? (i := 2) rfl) rfl dX2_nextTimeout_18 ?_
    refine lv_isub hx hb dX2_nextTimeout_21 ?_
    exact fk_iret hx hb hr hlocks hP hK hD hS (congrArg (fun z => fk_kW ad cI cT z ++ X) (by first | rfl | simp [o_1])) (by first | rfl | simp [kk_nextR, o_1]) dX2_nextTimeout_22
end
