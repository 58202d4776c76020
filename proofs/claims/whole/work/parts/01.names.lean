-- ===== PART A: goes FIRST, ahead of the names: the tables' words, and 'selects' of the private methods out of them =====
/-- a private method of a class that the tables say can be made, by its rows of tables_1 -/
def lw_okq (q : MethodName × Nat) : Prop := (q.1.cls ≠ "java/lang/invoke/MethodHandle" ∧ q.1.cls ≠ "java/lang/invoke/VarHandle") ∧ Cond.instantiable q.1.cls q.2 ∈ tables_1 ∧ Cond.privateMethod q.1 ∈ tables_1 ∧ Cond.instanceMethod q.1 ∈ tables_1
theorem lw_p0 : lw_okq (⟨"CordBay$Patch", "reachFrom", "(I)V"⟩, 6) := ⟨⟨by decide +kernel, by decide +kernel⟩, List.mem_of_getElem? (i := 21) (by decide +kernel), List.mem_of_getElem? (i := 216) (by decide +kernel), List.mem_of_getElem? (i := 217) (by decide +kernel)⟩
theorem lw_p1 : lw_okq (⟨"CordBay$Patch", "hasCordFromStep", "(LCordBay$Unit;I)Z"⟩, 6) := ⟨⟨by decide +kernel, by decide +kernel⟩, List.mem_of_getElem? (i := 21) (by decide +kernel), List.mem_of_getElem? (i := 220) (by decide +kernel), List.mem_of_getElem? (i := 221) (by decide +kernel)⟩
theorem lw_p2 : lw_okq (⟨"CordBay$Patch", "append", "(I)V"⟩, 6) := ⟨⟨by decide +kernel, by decide +kernel⟩, List.mem_of_getElem? (i := 21) (by decide +kernel), List.mem_of_getElem? (i := 310) (by decide +kernel), List.mem_of_getElem? (i := 311) (by decide +kernel)⟩
theorem lw_p3 : lw_okq (⟨"CordBay$Patch", "leastThatCanAct", "()I"⟩, 6) := ⟨⟨by decide +kernel, by decide +kernel⟩, List.mem_of_getElem? (i := 21) (by decide +kernel), List.mem_of_getElem? (i := 314) (by decide +kernel), List.mem_of_getElem? (i := 315) (by decide +kernel)⟩
theorem lw_p4 : lw_okq (⟨"CordBay$Patch", "allCordsReady", "(LCordBay$Unit;)Z"⟩, 6) := ⟨⟨by decide +kernel, by decide +kernel⟩, List.mem_of_getElem? (i := 21) (by decide +kernel), List.mem_of_getElem? (i := 318) (by decide +kernel), List.mem_of_getElem? (i := 319) (by decide +kernel)⟩
theorem lw_p5 : lw_okq (⟨"CordBay$Block", "act", "()LCordBay$Row;"⟩, 10) := ⟨⟨by decide +kernel, by decide +kernel⟩, List.mem_of_getElem? (i := 262) (by decide +kernel), List.mem_of_getElem? (i := 322) (by decide +kernel), List.mem_of_getElem? (i := 323) (by decide +kernel)⟩
theorem lw_p6 : lw_okq (⟨"CordBay$Block", "actSource", "()LCordBay$Row;"⟩, 10) := ⟨⟨by decide +kernel, by decide +kernel⟩, List.mem_of_getElem? (i := 262) (by decide +kernel), List.mem_of_getElem? (i := 326) (by decide +kernel), List.mem_of_getElem? (i := 327) (by decide +kernel)⟩
theorem lw_p7 : lw_okq (⟨"CordBay$Block", "fail", "(II)LCordBay$Row;"⟩, 10) := ⟨⟨by decide +kernel, by decide +kernel⟩, List.mem_of_getElem? (i := 262) (by decide +kernel), List.mem_of_getElem? (i := 330) (by decide +kernel), List.mem_of_getElem? (i := 331) (by decide +kernel)⟩
theorem lw_p8 : lw_okq (⟨"CordBay$Block", "putWhole", "(LCordBay$Row;II)V"⟩, 10) := ⟨⟨by decide +kernel, by decide +kernel⟩, List.mem_of_getElem? (i := 262) (by decide +kernel), List.mem_of_getElem? (i := 365) (by decide +kernel), List.mem_of_getElem? (i := 366) (by decide +kernel)⟩
theorem lw_p9 : lw_okq (⟨"CordBay$Block", "actShape", "()LCordBay$Row;"⟩, 10) := ⟨⟨by decide +kernel, by decide +kernel⟩, List.mem_of_getElem? (i := 262) (by decide +kernel), List.mem_of_getElem? (i := 388) (by decide +kernel), List.mem_of_getElem? (i := 389) (by decide +kernel)⟩
theorem lw_p10 : lw_okq (⟨"CordBay$Block", "wantRow", "(II)LCordBay$Row;"⟩, 10) := ⟨⟨by decide +kernel, by decide +kernel⟩, List.mem_of_getElem? (i := 262) (by decide +kernel), List.mem_of_getElem? (i := 392) (by decide +kernel), List.mem_of_getElem? (i := 393) (by decide +kernel)⟩
theorem lw_p11 : lw_okq (⟨"CordBay$Block", "rowBehind", "(I)LCordBay$Row;"⟩, 10) := ⟨⟨by decide +kernel, by decide +kernel⟩, List.mem_of_getElem? (i := 262) (by decide +kernel), List.mem_of_getElem? (i := 397) (by decide +kernel), List.mem_of_getElem? (i := 398) (by decide +kernel)⟩
theorem lw_p12 : lw_okq (⟨"CordBay$Block", "shaped", "(DI)D"⟩, 10) := ⟨⟨by decide +kernel, by decide +kernel⟩, List.mem_of_getElem? (i := 262) (by decide +kernel), List.mem_of_getElem? (i := 410) (by decide +kernel), List.mem_of_getElem? (i := 411) (by decide +kernel)⟩
theorem lw_p13 : lw_okq (⟨"CordBay$Block", "gain", "(I)D"⟩, 10) := ⟨⟨by decide +kernel, by decide +kernel⟩, List.mem_of_getElem? (i := 262) (by decide +kernel), List.mem_of_getElem? (i := 414) (by decide +kernel), List.mem_of_getElem? (i := 415) (by decide +kernel)⟩
theorem lw_p14 : lw_okq (⟨"CordBay$Block", "actMix", "()LCordBay$Row;"⟩, 10) := ⟨⟨by decide +kernel, by decide +kernel⟩, List.mem_of_getElem? (i := 262) (by decide +kernel), List.mem_of_getElem? (i := 419) (by decide +kernel), List.mem_of_getElem? (i := 420) (by decide +kernel)⟩
theorem lw_p15 : lw_okq (⟨"CordBay$Block", "sumOfIns", "()LCordBay$Row;"⟩, 10) := ⟨⟨by decide +kernel, by decide +kernel⟩, List.mem_of_getElem? (i := 262) (by decide +kernel), List.mem_of_getElem? (i := 423) (by decide +kernel), List.mem_of_getElem? (i := 424) (by decide +kernel)⟩
def lw_privs_1 : List (MethodName × Nat) := [(⟨"CordBay$Patch", "reachFrom", "(I)V"⟩, 6), (⟨"CordBay$Patch", "hasCordFromStep", "(LCordBay$Unit;I)Z"⟩, 6), (⟨"CordBay$Patch", "append", "(I)V"⟩, 6), (⟨"CordBay$Patch", "leastThatCanAct", "()I"⟩, 6), (⟨"CordBay$Patch", "allCordsReady", "(LCordBay$Unit;)Z"⟩, 6), (⟨"CordBay$Block", "act", "()LCordBay$Row;"⟩, 10), (⟨"CordBay$Block", "actSource", "()LCordBay$Row;"⟩, 10), (⟨"CordBay$Block", "fail", "(II)LCordBay$Row;"⟩, 10), (⟨"CordBay$Block", "putWhole", "(LCordBay$Row;II)V"⟩, 10), (⟨"CordBay$Block", "actShape", "()LCordBay$Row;"⟩, 10), (⟨"CordBay$Block", "wantRow", "(II)LCordBay$Row;"⟩, 10), (⟨"CordBay$Block", "rowBehind", "(I)LCordBay$Row;"⟩, 10), (⟨"CordBay$Block", "shaped", "(DI)D"⟩, 10), (⟨"CordBay$Block", "gain", "(I)D"⟩, 10), (⟨"CordBay$Block", "actMix", "()LCordBay$Row;"⟩, 10), (⟨"CordBay$Block", "sumOfIns", "()LCordBay$Row;"⟩, 10)]
theorem lw_r1 : ∀ q ∈ lw_privs_1, lw_okq q := List.forall_mem_cons.mpr ⟨lw_p0, List.forall_mem_cons.mpr ⟨lw_p1, List.forall_mem_cons.mpr ⟨lw_p2, List.forall_mem_cons.mpr ⟨lw_p3, List.forall_mem_cons.mpr ⟨lw_p4, List.forall_mem_cons.mpr ⟨lw_p5, List.forall_mem_cons.mpr ⟨lw_p6, List.forall_mem_cons.mpr ⟨lw_p7, List.forall_mem_cons.mpr ⟨lw_p8, List.forall_mem_cons.mpr ⟨lw_p9, List.forall_mem_cons.mpr ⟨lw_p10, List.forall_mem_cons.mpr ⟨lw_p11, List.forall_mem_cons.mpr ⟨lw_p12, List.forall_mem_cons.mpr ⟨lw_p13, List.forall_mem_cons.mpr ⟨lw_p14, List.forall_mem_cons.mpr ⟨lw_p15, fun _ h => absurd h List.not_mem_nil⟩⟩⟩⟩⟩⟩⟩⟩⟩⟩⟩⟩⟩⟩⟩⟩
theorem lw_p16 : lw_okq (⟨"CordBay$Block", "actGate", "()LCordBay$Row;"⟩, 10) := ⟨⟨by decide +kernel, by decide +kernel⟩, List.mem_of_getElem? (i := 262) (by decide +kernel), List.mem_of_getElem? (i := 437) (by decide +kernel), List.mem_of_getElem? (i := 438) (by decide +kernel)⟩
theorem lw_p17 : lw_okq (⟨"CordBay$Block", "moveGate", "(D)V"⟩, 10) := ⟨⟨by decide +kernel, by decide +kernel⟩, List.mem_of_getElem? (i := 262) (by decide +kernel), List.mem_of_getElem? (i := 441) (by decide +kernel), List.mem_of_getElem? (i := 442) (by decide +kernel)⟩
theorem lw_p18 : lw_okq (⟨"CordBay$Block", "actTurn", "()LCordBay$Row;"⟩, 10) := ⟨⟨by decide +kernel, by decide +kernel⟩, List.mem_of_getElem? (i := 262) (by decide +kernel), List.mem_of_getElem? (i := 445) (by decide +kernel), List.mem_of_getElem? (i := 446) (by decide +kernel)⟩
theorem lw_p19 : lw_okq (⟨"CordBay$Block", "turnFloating", "(LCordBay$Row;ID)V"⟩, 10) := ⟨⟨by decide +kernel, by decide +kernel⟩, List.mem_of_getElem? (i := 262) (by decide +kernel), List.mem_of_getElem? (i := 452) (by decide +kernel), List.mem_of_getElem? (i := 453) (by decide +kernel)⟩
theorem lw_p20 : lw_okq (⟨"CordBay$Block", "actSwitch", "()LCordBay$Row;"⟩, 10) := ⟨⟨by decide +kernel, by decide +kernel⟩, List.mem_of_getElem? (i := 262) (by decide +kernel), List.mem_of_getElem? (i := 456) (by decide +kernel), List.mem_of_getElem? (i := 457) (by decide +kernel)⟩
theorem lw_p21 : lw_okq (⟨"CordBay$Block", "actMean", "()LCordBay$Row;"⟩, 10) := ⟨⟨by decide +kernel, by decide +kernel⟩, List.mem_of_getElem? (i := 262) (by decide +kernel), List.mem_of_getElem? (i := 460) (by decide +kernel), List.mem_of_getElem? (i := 461) (by decide +kernel)⟩
theorem lw_p22 : lw_okq (⟨"CordBay", "isTake", "(I)Z"⟩, 9) := ⟨⟨by decide +kernel, by decide +kernel⟩, List.mem_of_getElem? (i := 13) (by decide +kernel), List.mem_of_getElem? (i := 500) (by decide +kernel), List.mem_of_getElem? (i := 501) (by decide +kernel)⟩
theorem lw_p23 : lw_okq (⟨"CordBay", "givenBy", "(I)LCordBay$Row;"⟩, 9) := ⟨⟨by decide +kernel, by decide +kernel⟩, List.mem_of_getElem? (i := 13) (by decide +kernel), List.mem_of_getElem? (i := 537) (by decide +kernel), List.mem_of_getElem? (i := 538) (by decide +kernel)⟩
theorem lw_p24 : lw_okq (⟨"CordBay", "countOfUnit", "(I)I"⟩, 9) := ⟨⟨by decide +kernel, by decide +kernel⟩, List.mem_of_getElem? (i := 13) (by decide +kernel), List.mem_of_getElem? (i := 572) (by decide +kernel), List.mem_of_getElem? (i := 573) (by decide +kernel)⟩
theorem lw_p25 : lw_okq (⟨"CordBayModel", "hasIn", "(II)Z"⟩, 31) := ⟨⟨by decide +kernel, by decide +kernel⟩, List.mem_of_getElem? (i := 576) (by decide +kernel), List.mem_of_getElem? (i := 687) (by decide +kernel), List.mem_of_getElem? (i := 688) (by decide +kernel)⟩
theorem lw_p26 : lw_okq (⟨"CordBayModel", "isModule", "(I)Z"⟩, 31) := ⟨⟨by decide +kernel, by decide +kernel⟩, List.mem_of_getElem? (i := 576) (by decide +kernel), List.mem_of_getElem? (i := 691) (by decide +kernel), List.mem_of_getElem? (i := 692) (by decide +kernel)⟩
theorem lw_p27 : lw_okq (⟨"CordBayModel", "way", "(II)I"⟩, 31) := ⟨⟨by decide +kernel, by decide +kernel⟩, List.mem_of_getElem? (i := 576) (by decide +kernel), List.mem_of_getElem? (i := 695) (by decide +kernel), List.mem_of_getElem? (i := 696) (by decide +kernel)⟩
theorem lw_p28 : lw_okq (⟨"CordBayModel", "leads", "(II)Z"⟩, 31) := ⟨⟨by decide +kernel, by decide +kernel⟩, List.mem_of_getElem? (i := 576) (by decide +kernel), List.mem_of_getElem? (i := 699) (by decide +kernel), List.mem_of_getElem? (i := 700) (by decide +kernel)⟩
theorem lw_p29 : lw_okq (⟨"CordBayModel", "copyState", "(II)V"⟩, 31) := ⟨⟨by decide +kernel, by decide +kernel⟩, List.mem_of_getElem? (i := 576) (by decide +kernel), List.mem_of_getElem? (i := 723) (by decide +kernel), List.mem_of_getElem? (i := 724) (by decide +kernel)⟩
theorem lw_p30 : lw_okq (⟨"CordBayModel", "setOrder", "()V"⟩, 31) := ⟨⟨by decide +kernel, by decide +kernel⟩, List.mem_of_getElem? (i := 576) (by decide +kernel), List.mem_of_getElem? (i := 727) (by decide +kernel), List.mem_of_getElem? (i := 728) (by decide +kernel)⟩
theorem lw_p31 : lw_okq (⟨"CordBayModel", "hasActed", "(II)Z"⟩, 31) := ⟨⟨by decide +kernel, by decide +kernel⟩, List.mem_of_getElem? (i := 576) (by decide +kernel), List.mem_of_getElem? (i := 731) (by decide +kernel), List.mem_of_getElem? (i := 732) (by decide +kernel)⟩
def lw_privs_2 : List (MethodName × Nat) := [(⟨"CordBay$Block", "actGate", "()LCordBay$Row;"⟩, 10), (⟨"CordBay$Block", "moveGate", "(D)V"⟩, 10), (⟨"CordBay$Block", "actTurn", "()LCordBay$Row;"⟩, 10), (⟨"CordBay$Block", "turnFloating", "(LCordBay$Row;ID)V"⟩, 10), (⟨"CordBay$Block", "actSwitch", "()LCordBay$Row;"⟩, 10), (⟨"CordBay$Block", "actMean", "()LCordBay$Row;"⟩, 10), (⟨"CordBay", "isTake", "(I)Z"⟩, 9), (⟨"CordBay", "givenBy", "(I)LCordBay$Row;"⟩, 9), (⟨"CordBay", "countOfUnit", "(I)I"⟩, 9), (⟨"CordBayModel", "hasIn", "(II)Z"⟩, 31), (⟨"CordBayModel", "isModule", "(I)Z"⟩, 31), (⟨"CordBayModel", "way", "(II)I"⟩, 31), (⟨"CordBayModel", "leads", "(II)Z"⟩, 31), (⟨"CordBayModel", "copyState", "(II)V"⟩, 31), (⟨"CordBayModel", "setOrder", "()V"⟩, 31), (⟨"CordBayModel", "hasActed", "(II)Z"⟩, 31)]
theorem lw_r2 : ∀ q ∈ lw_privs_2, lw_okq q := List.forall_mem_cons.mpr ⟨lw_p16, List.forall_mem_cons.mpr ⟨lw_p17, List.forall_mem_cons.mpr ⟨lw_p18, List.forall_mem_cons.mpr ⟨lw_p19, List.forall_mem_cons.mpr ⟨lw_p20, List.forall_mem_cons.mpr ⟨lw_p21, List.forall_mem_cons.mpr ⟨lw_p22, List.forall_mem_cons.mpr ⟨lw_p23, List.forall_mem_cons.mpr ⟨lw_p24, List.forall_mem_cons.mpr ⟨lw_p25, List.forall_mem_cons.mpr ⟨lw_p26, List.forall_mem_cons.mpr ⟨lw_p27, List.forall_mem_cons.mpr ⟨lw_p28, List.forall_mem_cons.mpr ⟨lw_p29, List.forall_mem_cons.mpr ⟨lw_p30, List.forall_mem_cons.mpr ⟨lw_p31, fun _ h => absurd h List.not_mem_nil⟩⟩⟩⟩⟩⟩⟩⟩⟩⟩⟩⟩⟩⟩⟩⟩
theorem lw_p32 : lw_okq (⟨"CordBayModel", "acts", "(I)Z"⟩, 31) := ⟨⟨by decide +kernel, by decide +kernel⟩, List.mem_of_getElem? (i := 576) (by decide +kernel), List.mem_of_getElem? (i := 735) (by decide +kernel), List.mem_of_getElem? (i := 736) (by decide +kernel)⟩
theorem lw_p33 : lw_okq (⟨"CordBayModel", "source", "(I)Z"⟩, 31) := ⟨⟨by decide +kernel, by decide +kernel⟩, List.mem_of_getElem? (i := 576) (by decide +kernel), List.mem_of_getElem? (i := 739) (by decide +kernel), List.mem_of_getElem? (i := 740) (by decide +kernel)⟩
theorem lw_p34 : lw_okq (⟨"CordBayModel", "fails", "(III)Z"⟩, 31) := ⟨⟨by decide +kernel, by decide +kernel⟩, List.mem_of_getElem? (i := 576) (by decide +kernel), List.mem_of_getElem? (i := 743) (by decide +kernel), List.mem_of_getElem? (i := 744) (by decide +kernel)⟩
theorem lw_p35 : lw_okq (⟨"CordBayModel", "wholeInto", "(IJI)D"⟩, 31) := ⟨⟨by decide +kernel, by decide +kernel⟩, List.mem_of_getElem? (i := 576) (by decide +kernel), List.mem_of_getElem? (i := 748) (by decide +kernel), List.mem_of_getElem? (i := 749) (by decide +kernel)⟩
theorem lw_p36 : lw_okq (⟨"CordBayModel", "heldTo", "(IJI)D"⟩, 31) := ⟨⟨by decide +kernel, by decide +kernel⟩, List.mem_of_getElem? (i := 576) (by decide +kernel), List.mem_of_getElem? (i := 752) (by decide +kernel), List.mem_of_getElem? (i := 753) (by decide +kernel)⟩
theorem lw_p37 : lw_okq (⟨"CordBayModel", "give", "(II)V"⟩, 31) := ⟨⟨by decide +kernel, by decide +kernel⟩, List.mem_of_getElem? (i := 576) (by decide +kernel), List.mem_of_getElem? (i := 764) (by decide +kernel), List.mem_of_getElem? (i := 765) (by decide +kernel)⟩
theorem lw_p38 : lw_okq (⟨"CordBayModel", "rowAt", "(II)I"⟩, 31) := ⟨⟨by decide +kernel, by decide +kernel⟩, List.mem_of_getElem? (i := 576) (by decide +kernel), List.mem_of_getElem? (i := 768) (by decide +kernel), List.mem_of_getElem? (i := 769) (by decide +kernel)⟩
theorem lw_p39 : lw_okq (⟨"CordBayModel", "counts", "(II)Z"⟩, 31) := ⟨⟨by decide +kernel, by decide +kernel⟩, List.mem_of_getElem? (i := 576) (by decide +kernel), List.mem_of_getElem? (i := 772) (by decide +kernel), List.mem_of_getElem? (i := 773) (by decide +kernel)⟩
theorem lw_p40 : lw_okq (⟨"CordBayModel", "kindOf", "(I)I"⟩, 31) := ⟨⟨by decide +kernel, by decide +kernel⟩, List.mem_of_getElem? (i := 576) (by decide +kernel), List.mem_of_getElem? (i := 776) (by decide +kernel), List.mem_of_getElem? (i := 777) (by decide +kernel)⟩
theorem lw_p41 : lw_okq (⟨"CordBayModel", "mix", "(I)Z"⟩, 31) := ⟨⟨by decide +kernel, by decide +kernel⟩, List.mem_of_getElem? (i := 576) (by decide +kernel), List.mem_of_getElem? (i := 780) (by decide +kernel), List.mem_of_getElem? (i := 781) (by decide +kernel)⟩
theorem lw_p42 : lw_okq (⟨"CordBayModel", "hasSample", "(III)Z"⟩, 31) := ⟨⟨by decide +kernel, by decide +kernel⟩, List.mem_of_getElem? (i := 576) (by decide +kernel), List.mem_of_getElem? (i := 784) (by decide +kernel), List.mem_of_getElem? (i := 785) (by decide +kernel)⟩
theorem lw_p43 : lw_okq (⟨"CordBayModel", "sampleOf", "(III)D"⟩, 31) := ⟨⟨by decide +kernel, by decide +kernel⟩, List.mem_of_getElem? (i := 576) (by decide +kernel), List.mem_of_getElem? (i := 788) (by decide +kernel), List.mem_of_getElem? (i := 789) (by decide +kernel)⟩
theorem lw_p44 : lw_okq (⟨"CordBayModel", "noRow", "(II)V"⟩, 31) := ⟨⟨by decide +kernel, by decide +kernel⟩, List.mem_of_getElem? (i := 576) (by decide +kernel), List.mem_of_getElem? (i := 792) (by decide +kernel), List.mem_of_getElem? (i := 793) (by decide +kernel)⟩
theorem lw_p45 : lw_okq (⟨"CordBayModel", "delay", "(I)V"⟩, 31) := ⟨⟨by decide +kernel, by decide +kernel⟩, List.mem_of_getElem? (i := 576) (by decide +kernel), List.mem_of_getElem? (i := 796) (by decide +kernel), List.mem_of_getElem? (i := 797) (by decide +kernel)⟩
theorem lw_p46 : lw_okq (⟨"CordBayModel", "copyRow", "(IIII)V"⟩, 31) := ⟨⟨by decide +kernel, by decide +kernel⟩, List.mem_of_getElem? (i := 576) (by decide +kernel), List.mem_of_getElem? (i := 800) (by decide +kernel), List.mem_of_getElem? (i := 801) (by decide +kernel)⟩
theorem lw_p47 : lw_okq (⟨"CordBayModel", "gate", "(I)Z"⟩, 31) := ⟨⟨by decide +kernel, by decide +kernel⟩, List.mem_of_getElem? (i := 576) (by decide +kernel), List.mem_of_getElem? (i := 804) (by decide +kernel), List.mem_of_getElem? (i := 805) (by decide +kernel)⟩
def lw_privs_3 : List (MethodName × Nat) := [(⟨"CordBayModel", "acts", "(I)Z"⟩, 31), (⟨"CordBayModel", "source", "(I)Z"⟩, 31), (⟨"CordBayModel", "fails", "(III)Z"⟩, 31), (⟨"CordBayModel", "wholeInto", "(IJI)D"⟩, 31), (⟨"CordBayModel", "heldTo", "(IJI)D"⟩, 31), (⟨"CordBayModel", "give", "(II)V"⟩, 31), (⟨"CordBayModel", "rowAt", "(II)I"⟩, 31), (⟨"CordBayModel", "counts", "(II)Z"⟩, 31), (⟨"CordBayModel", "kindOf", "(I)I"⟩, 31), (⟨"CordBayModel", "mix", "(I)Z"⟩, 31), (⟨"CordBayModel", "hasSample", "(III)Z"⟩, 31), (⟨"CordBayModel", "sampleOf", "(III)D"⟩, 31), (⟨"CordBayModel", "noRow", "(II)V"⟩, 31), (⟨"CordBayModel", "delay", "(I)V"⟩, 31), (⟨"CordBayModel", "copyRow", "(IIII)V"⟩, 31), (⟨"CordBayModel", "gate", "(I)Z"⟩, 31)]
theorem lw_r3 : ∀ q ∈ lw_privs_3, lw_okq q := List.forall_mem_cons.mpr ⟨lw_p32, List.forall_mem_cons.mpr ⟨lw_p33, List.forall_mem_cons.mpr ⟨lw_p34, List.forall_mem_cons.mpr ⟨lw_p35, List.forall_mem_cons.mpr ⟨lw_p36, List.forall_mem_cons.mpr ⟨lw_p37, List.forall_mem_cons.mpr ⟨lw_p38, List.forall_mem_cons.mpr ⟨lw_p39, List.forall_mem_cons.mpr ⟨lw_p40, List.forall_mem_cons.mpr ⟨lw_p41, List.forall_mem_cons.mpr ⟨lw_p42, List.forall_mem_cons.mpr ⟨lw_p43, List.forall_mem_cons.mpr ⟨lw_p44, List.forall_mem_cons.mpr ⟨lw_p45, List.forall_mem_cons.mpr ⟨lw_p46, List.forall_mem_cons.mpr ⟨lw_p47, fun _ h => absurd h List.not_mem_nil⟩⟩⟩⟩⟩⟩⟩⟩⟩⟩⟩⟩⟩⟩⟩⟩
theorem lw_p48 : lw_okq (⟨"CordBayModel", "hasRow", "(III)Z"⟩, 31) := ⟨⟨by decide +kernel, by decide +kernel⟩, List.mem_of_getElem? (i := 576) (by decide +kernel), List.mem_of_getElem? (i := 808) (by decide +kernel), List.mem_of_getElem? (i := 809) (by decide +kernel)⟩
theorem lw_p49 : lw_okq (⟨"CordBayModel", "isNoneOf", "(III)Z"⟩, 31) := ⟨⟨by decide +kernel, by decide +kernel⟩, List.mem_of_getElem? (i := 576) (by decide +kernel), List.mem_of_getElem? (i := 812) (by decide +kernel), List.mem_of_getElem? (i := 813) (by decide +kernel)⟩
theorem lw_p50 : lw_okq (⟨"CordBayModel", "turn", "(I)Z"⟩, 31) := ⟨⟨by decide +kernel, by decide +kernel⟩, List.mem_of_getElem? (i := 576) (by decide +kernel), List.mem_of_getElem? (i := 817) (by decide +kernel), List.mem_of_getElem? (i := 818) (by decide +kernel)⟩
theorem lw_p51 : lw_okq (⟨"CordBayModel", "floatingInto", "(IDI)D"⟩, 31) := ⟨⟨by decide +kernel, by decide +kernel⟩, List.mem_of_getElem? (i := 576) (by decide +kernel), List.mem_of_getElem? (i := 821) (by decide +kernel), List.mem_of_getElem? (i := 822) (by decide +kernel)⟩
theorem lw_p52 : lw_okq (⟨"CordBayModel", "doesSwitch", "(I)Z"⟩, 31) := ⟨⟨by decide +kernel, by decide +kernel⟩, List.mem_of_getElem? (i := 576) (by decide +kernel), List.mem_of_getElem? (i := 825) (by decide +kernel), List.mem_of_getElem? (i := 826) (by decide +kernel)⟩
theorem lw_p53 : lw_okq (⟨"CordBayModel", "mean", "(I)Z"⟩, 31) := ⟨⟨by decide +kernel, by decide +kernel⟩, List.mem_of_getElem? (i := 576) (by decide +kernel), List.mem_of_getElem? (i := 829) (by decide +kernel), List.mem_of_getElem? (i := 830) (by decide +kernel)⟩
theorem lw_p54 : lw_okq (⟨"CordBayModel", "shape", "(I)Z"⟩, 31) := ⟨⟨by decide +kernel, by decide +kernel⟩, List.mem_of_getElem? (i := 576) (by decide +kernel), List.mem_of_getElem? (i := 833) (by decide +kernel), List.mem_of_getElem? (i := 834) (by decide +kernel)⟩
theorem lw_p55 : lw_okq (⟨"CordBayModel", "shaped", "(IID)D"⟩, 31) := ⟨⟨by decide +kernel, by decide +kernel⟩, List.mem_of_getElem? (i := 576) (by decide +kernel), List.mem_of_getElem? (i := 837) (by decide +kernel), List.mem_of_getElem? (i := 838) (by decide +kernel)⟩
theorem lw_p56 : lw_okq (⟨"CordBayModel", "filtered", "(ID)D"⟩, 31) := ⟨⟨by decide +kernel, by decide +kernel⟩, List.mem_of_getElem? (i := 576) (by decide +kernel), List.mem_of_getElem? (i := 841) (by decide +kernel), List.mem_of_getElem? (i := 842) (by decide +kernel)⟩
theorem lw_p57 : lw_okq (⟨"CordBayModel", "late", "(ID)D"⟩, 31) := ⟨⟨by decide +kernel, by decide +kernel⟩, List.mem_of_getElem? (i := 576) (by decide +kernel), List.mem_of_getElem? (i := 845) (by decide +kernel), List.mem_of_getElem? (i := 846) (by decide +kernel)⟩
theorem lw_p58 : lw_okq (⟨"CordBayModel", "feed", "()V"⟩, 31) := ⟨⟨by decide +kernel, by decide +kernel⟩, List.mem_of_getElem? (i := 576) (by decide +kernel), List.mem_of_getElem? (i := 849) (by decide +kernel), List.mem_of_getElem? (i := 850) (by decide +kernel)⟩
theorem lw_p59 : lw_okq (⟨"CordBayModel", "takeOf", "(I)I"⟩, 31) := ⟨⟨by decide +kernel, by decide +kernel⟩, List.mem_of_getElem? (i := 576) (by decide +kernel), List.mem_of_getElem? (i := 873) (by decide +kernel), List.mem_of_getElem? (i := 874) (by decide +kernel)⟩
theorem lw_p60 : lw_okq (⟨"CordBayModel", "hasGiven", "(II)Z"⟩, 31) := ⟨⟨by decide +kernel, by decide +kernel⟩, List.mem_of_getElem? (i := 576) (by decide +kernel), List.mem_of_getElem? (i := 888) (by decide +kernel), List.mem_of_getElem? (i := 889) (by decide +kernel)⟩
def lw_privs_4 : List (MethodName × Nat) := [(⟨"CordBayModel", "hasRow", "(III)Z"⟩, 31), (⟨"CordBayModel", "isNoneOf", "(III)Z"⟩, 31), (⟨"CordBayModel", "turn", "(I)Z"⟩, 31), (⟨"CordBayModel", "floatingInto", "(IDI)D"⟩, 31), (⟨"CordBayModel", "doesSwitch", "(I)Z"⟩, 31), (⟨"CordBayModel", "mean", "(I)Z"⟩, 31), (⟨"CordBayModel", "shape", "(I)Z"⟩, 31), (⟨"CordBayModel", "shaped", "(IID)D"⟩, 31), (⟨"CordBayModel", "filtered", "(ID)D"⟩, 31), (⟨"CordBayModel", "late", "(ID)D"⟩, 31), (⟨"CordBayModel", "feed", "()V"⟩, 31), (⟨"CordBayModel", "takeOf", "(I)I"⟩, 31), (⟨"CordBayModel", "hasGiven", "(II)Z"⟩, 31)]
theorem lw_r4 : ∀ q ∈ lw_privs_4, lw_okq q := List.forall_mem_cons.mpr ⟨lw_p48, List.forall_mem_cons.mpr ⟨lw_p49, List.forall_mem_cons.mpr ⟨lw_p50, List.forall_mem_cons.mpr ⟨lw_p51, List.forall_mem_cons.mpr ⟨lw_p52, List.forall_mem_cons.mpr ⟨lw_p53, List.forall_mem_cons.mpr ⟨lw_p54, List.forall_mem_cons.mpr ⟨lw_p55, List.forall_mem_cons.mpr ⟨lw_p56, List.forall_mem_cons.mpr ⟨lw_p57, List.forall_mem_cons.mpr ⟨lw_p58, List.forall_mem_cons.mpr ⟨lw_p59, List.forall_mem_cons.mpr ⟨lw_p60, fun _ h => absurd h List.not_mem_nil⟩⟩⟩⟩⟩⟩⟩⟩⟩⟩⟩⟩⟩
def lw_privs : List (MethodName × Nat) := lw_privs_1 ++ (lw_privs_2 ++ (lw_privs_3 ++ (lw_privs_4)))
def lw_tbl : List Cond := k2_sels lw_privs ++ tables_1
theorem lw_privs_ok : ∀ q ∈ lw_privs, lw_okq q := by
  show ∀ q ∈ lw_privs_1 ++ (lw_privs_2 ++ (lw_privs_3 ++ (lw_privs_4))), lw_okq q
  exact List.forall_mem_append.mpr ⟨lw_r1, List.forall_mem_append.mpr ⟨lw_r2, List.forall_mem_append.mpr ⟨lw_r3, lw_r4⟩⟩⟩
/-- the streams that the claim lets the run draw from -/
abbrev lw_cs : List Choice := [Jvm.Choice.named "NaN.bits"]
theorem lw_bits : nanBits ∈ lw_cs := by first | decide | exact List.mem_cons_self | simp [lw_cs, nanBits]
def RX0 : String := "CordBay$Block"
def TX0 : u_T := fun k => match k with
  | 0 => ("CordBay$Block", "patch", "LCordBay$Patch;", true)
  | 1 => ("CordBay$Block", "tables", "[LCordBay$Table;", true)
  | 2 => ("CordBay$Block", "n", "I", true)
  | 3 => ("CordBay$Block", "opened", "[I", true)
  | 4 => ("CordBay$Block", "openedCount", "I", false)
  | 5 => ("CordBay$Block", "unit", "LCordBay$Unit;", false)
  | 6 => ("CordBay$Block", "state", "LCordBay$State;", false)
  | 7 => ("CordBay$Block", "code", "I", false)
  | 8 => ("CordBay$Block", "acting", "I", false)
  | _ => ("CordBay$Block", "atSample", "I", false)
def tyX0 : Nat → FieldType := fun k => match k with
  | 0 => .object "CordBay$Patch"
  | 1 => .array (.object "CordBay$Table")
  | 2 => .int
  | 3 => .array .int
  | 4 => .int
  | 5 => .object "CordBay$Unit"
  | 6 => .object "CordBay$State"
  | 7 => .int
  | 8 => .int
  | _ => .int
abbrev wsX00 : List Cond := u_ws RX0 TX0 10
theorem nmX0 : ∀ a, a < 10 → ∀ b, b < 10 → a ≠ b → (TX0 a).2.1 ≠ (TX0 b).2.1 := by decide +kernel
theorem tyX0_ok : ∀ k, k < 10 → parseFieldDescriptor (TX0 k).2.2.1 = some (tyX0 k) := by decide +kernel
abbrev cX0_init : ByteArray := prog_2_method_1_code
def yX0_init : MethodName := ⟨RX0, "<init>", "(LCordBay$Patch;[LCordBay$Table;I)V"⟩
abbrev cX0_perform : ByteArray := prog_2_method_2_code
def yX0_perform : MethodName := ⟨RX0, "perform", "()V"⟩
abbrev cX0_traceEntry : ByteArray := prog_2_method_3_code
def yX0_traceEntry : MethodName := ⟨RX0, "traceEntry", "(I)I"⟩
abbrev cX0_act : ByteArray := prog_2_method_4_code
def yX0_act : MethodName := ⟨RX0, "act", "()LCordBay$Row;"⟩
abbrev cX0_fail : ByteArray := prog_2_method_5_code
def yX0_fail : MethodName := ⟨RX0, "fail", "(II)LCordBay$Row;"⟩
abbrev cX0_rowBehind : ByteArray := prog_2_method_6_code
def yX0_rowBehind : MethodName := ⟨RX0, "rowBehind", "(I)LCordBay$Row;"⟩
abbrev cX0_wantRow : ByteArray := prog_2_method_7_code
def yX0_wantRow : MethodName := ⟨RX0, "wantRow", "(II)LCordBay$Row;"⟩
abbrev cX0_actSource : ByteArray := prog_2_method_8_code
def yX0_actSource : MethodName := ⟨RX0, "actSource", "()LCordBay$Row;"⟩
abbrev cX0_putWhole : ByteArray := prog_2_method_9_code
def yX0_putWhole : MethodName := ⟨RX0, "putWhole", "(LCordBay$Row;II)V"⟩
abbrev cX0_putFloating : ByteArray := prog_2_method_10_code
def yX0_putFloating : MethodName := ⟨RX0, "putFloating", "(LCordBay$Row;ID)V"⟩
abbrev cX0_held : ByteArray := prog_2_method_11_code
def yX0_held : MethodName := ⟨RX0, "held", "(D)D"⟩
abbrev cX0_actShape : ByteArray := prog_2_method_12_code
def yX0_actShape : MethodName := ⟨RX0, "actShape", "()LCordBay$Row;"⟩
abbrev cX0_shaped : ByteArray := prog_2_method_13_code
def yX0_shaped : MethodName := ⟨RX0, "shaped", "(DI)D"⟩
abbrev cX0_gain : ByteArray := prog_2_method_14_code
def yX0_gain : MethodName := ⟨RX0, "gain", "(I)D"⟩
abbrev cX0_actMix : ByteArray := prog_2_method_15_code
def yX0_actMix : MethodName := ⟨RX0, "actMix", "()LCordBay$Row;"⟩
abbrev cX0_sumOfIns : ByteArray := prog_2_method_16_code
def yX0_sumOfIns : MethodName := ⟨RX0, "sumOfIns", "()LCordBay$Row;"⟩
abbrev cX0_actGate : ByteArray := prog_2_method_17_code
def yX0_actGate : MethodName := ⟨RX0, "actGate", "()LCordBay$Row;"⟩
abbrev cX0_moveGate : ByteArray := prog_2_method_18_code
def yX0_moveGate : MethodName := ⟨RX0, "moveGate", "(D)V"⟩
abbrev cX0_actTurn : ByteArray := prog_2_method_19_code
def yX0_actTurn : MethodName := ⟨RX0, "actTurn", "()LCordBay$Row;"⟩
abbrev cX0_turnNoNumber : ByteArray := prog_2_method_20_code
def yX0_turnNoNumber : MethodName := ⟨RX0, "turnNoNumber", "(LCordBay$Row;I)V"⟩
abbrev cX0_turnFloating : ByteArray := prog_2_method_21_code
def yX0_turnFloating : MethodName := ⟨RX0, "turnFloating", "(LCordBay$Row;ID)V"⟩
abbrev cX0_actSwitch : ByteArray := prog_2_method_22_code
def yX0_actSwitch : MethodName := ⟨RX0, "actSwitch", "()LCordBay$Row;"⟩
abbrev cX0_actMean : ByteArray := prog_2_method_23_code
def yX0_actMean : MethodName := ⟨RX0, "actMean", "()LCordBay$Row;"⟩
def RX1 : String := "CordBay$Patch"
def TX1 : u_T := fun k => match k with
  | 0 => ("CordBay$Patch", "units", "[LCordBay$Unit;", true)
  | 1 => ("CordBay$Patch", "size", "I", false)
  | 2 => ("CordBay$Patch", "sequence", "[I", true)
  | 3 => ("CordBay$Patch", "arranged", "I", false)
  | 4 => ("CordBay$Patch", "ready", "[Z", true)
  | _ => ("CordBay$Patch", "steps", "[I", true)
def tyX1 : Nat → FieldType := fun k => match k with
  | 0 => .array (.object "CordBay$Unit")
  | 1 => .int
  | 2 => .array .int
  | 3 => .int
  | 4 => .array .boolean
  | _ => .array .int
abbrev wsX10 : List Cond := u_ws RX1 TX1 6
theorem nmX1 : ∀ a, a < 6 → ∀ b, b < 6 → a ≠ b → (TX1 a).2.1 ≠ (TX1 b).2.1 := by decide +kernel
theorem tyX1_ok : ∀ k, k < 6 → parseFieldDescriptor (TX1 k).2.2.1 = some (tyX1 k) := by decide +kernel
abbrev cX1_init : ByteArray := prog_3_method_1_code
def yX1_init : MethodName := ⟨RX1, "<init>", "()V"⟩
abbrev cX1_unitAt : ByteArray := prog_3_method_2_code
def yX1_unitAt : MethodName := ⟨RX1, "unitAt", "(I)LCordBay$Unit;"⟩
abbrev cX1_add : ByteArray := prog_3_method_3_code
def yX1_add : MethodName := ⟨RX1, "add", "(LCordBay$Unit;)I"⟩
abbrev cX1_cordsInUse : ByteArray := prog_3_method_4_code
def yX1_cordsInUse : MethodName := ⟨RX1, "cordsInUse", "()I"⟩
abbrev cX1_saveStates : ByteArray := prog_3_method_5_code
def yX1_saveStates : MethodName := ⟨RX1, "saveStates", "(I)V"⟩
abbrev cX1_restoreStates : ByteArray := prog_3_method_6_code
def yX1_restoreStates : MethodName := ⟨RX1, "restoreStates", "(I)V"⟩
abbrev cX1_closeDoneBlock : ByteArray := prog_3_method_7_code
def yX1_closeDoneBlock : MethodName := ⟨RX1, "closeDoneBlock", "()V"⟩
abbrev cX1_loopClosedBy : ByteArray := prog_3_method_8_code
def yX1_loopClosedBy : MethodName := ⟨RX1, "loopClosedBy", "(II)I"⟩
abbrev cX1_reachFrom : ByteArray := prog_3_method_9_code
def yX1_reachFrom : MethodName := ⟨RX1, "reachFrom", "(I)V"⟩
abbrev cX1_hasCordFromStep : ByteArray := prog_3_method_10_code
def yX1_hasCordFromStep : MethodName := ⟨RX1, "hasCordFromStep", "(LCordBay$Unit;I)Z"⟩
abbrev cX1_arrange : ByteArray := prog_3_method_11_code
def yX1_arrange : MethodName := ⟨RX1, "arrange", "()V"⟩
abbrev cX1_append : ByteArray := prog_3_method_12_code
def yX1_append : MethodName := ⟨RX1, "append", "(I)V"⟩
abbrev cX1_leastThatCanAct : ByteArray := prog_3_method_13_code
def yX1_leastThatCanAct : MethodName := ⟨RX1, "leastThatCanAct", "()I"⟩
abbrev cX1_allCordsReady : ByteArray := prog_3_method_14_code
def yX1_allCordsReady : MethodName := ⟨RX1, "allCordsReady", "(LCordBay$Unit;)Z"⟩
def RX2 : String := "CordBay$Row"
def TX2 : u_T := fun k => match k with
  | 0 => ("CordBay$Row", "kind", "I", true)
  | 1 => ("CordBay$Row", "values", "[D", true)
  | _ => ("CordBay$Row", "lacking", "I", false)
def tyX2 : Nat → FieldType := fun k => match k with
  | 0 => .int
  | 1 => .array .double
  | _ => .int
abbrev wsX20 : List Cond := u_ws RX2 TX2 3
theorem nmX2 : ∀ a, a < 3 → ∀ b, b < 3 → a ≠ b → (TX2 a).2.1 ≠ (TX2 b).2.1 := by decide +kernel
theorem tyX2_ok : ∀ k, k < 3 → parseFieldDescriptor (TX2 k).2.2.1 = some (tyX2 k) := by decide +kernel
abbrev cX2_init : ByteArray := prog_4_method_1_code
def yX2_init : MethodName := ⟨RX2, "<init>", "(II)V"⟩
abbrev cX2_length : ByteArray := prog_4_method_2_code
def yX2_length : MethodName := ⟨RX2, "length", "()I"⟩
abbrev cX2_reaches : ByteArray := prog_4_method_3_code
def yX2_reaches : MethodName := ⟨RX2, "reaches", "(I)Z"⟩
abbrev cX2_lacks : ByteArray := prog_4_method_4_code
def yX2_lacks : MethodName := ⟨RX2, "lacks", "(I)Z"⟩
abbrev cX2_setLacking : ByteArray := prog_4_method_5_code
def yX2_setLacking : MethodName := ⟨RX2, "setLacking", "(I)V"⟩
abbrev cX2_isSilent : ByteArray := prog_4_method_6_code
def yX2_isSilent : MethodName := ⟨RX2, "isSilent", "()Z"⟩
abbrev cX2_sameAs : ByteArray := prog_4_method_7_code
def yX2_sameAs : MethodName := ⟨RX2, "sameAs", "(LCordBay$Row;)Z"⟩
abbrev cX2_sameBits : ByteArray := prog_4_method_8_code
def yX2_sameBits : MethodName := ⟨RX2, "sameBits", "(DD)Z"⟩
abbrev cX2_isNegativeZero : ByteArray := prog_4_method_9_code
def yX2_isNegativeZero : MethodName := ⟨RX2, "isNegativeZero", "(D)Z"⟩
def RX3 : String := "CordBay$State"
def TX3 : u_T := fun k => match k with
  | 0 => ("CordBay$State", "gives", "LCordBay$Row;", false)
  | 1 => ("CordBay$State", "fed", "[LCordBay$Row;", true)
  | 2 => ("CordBay$State", "place", "I", false)
  | 3 => ("CordBay$State", "kept", "D", false)
  | 4 => ("CordBay$State", "old", "D", false)
  | 5 => ("CordBay$State", "up", "I", false)
  | 6 => ("CordBay$State", "knobBefore", "I", false)
  | _ => ("CordBay$State", "saturations", "I", false)
def tyX3 : Nat → FieldType := fun k => match k with
  | 0 => .object "CordBay$Row"
  | 1 => .array (.object "CordBay$Row")
  | 2 => .int
  | 3 => .double
  | 4 => .double
  | 5 => .int
  | 6 => .int
  | _ => .int
abbrev wsX30 : List Cond := u_ws RX3 TX3 8
theorem nmX3 : ∀ a, a < 8 → ∀ b, b < 8 → a ≠ b → (TX3 a).2.1 ≠ (TX3 b).2.1 := by decide +kernel
theorem tyX3_ok : ∀ k, k < 8 → parseFieldDescriptor (TX3 k).2.2.1 = some (tyX3 k) := by decide +kernel
abbrev cX3_init : ByteArray := prog_5_method_1_code
def yX3_init : MethodName := ⟨RX3, "<init>", "()V"⟩
abbrev cX3_copyFrom : ByteArray := prog_5_method_2_code
def yX3_copyFrom : MethodName := ⟨RX3, "copyFrom", "(LCordBay$State;)V"⟩
abbrev cX3_feed : ByteArray := prog_5_method_3_code
def yX3_feed : MethodName := ⟨RX3, "feed", "(LCordBay$Row;)V"⟩
abbrev cX3_hold : ByteArray := prog_5_method_4_code
def yX3_hold : MethodName := ⟨RX3, "hold", "(JJJ)J"⟩
abbrev cX3_holdShort : ByteArray := prog_5_method_5_code
def yX3_holdShort : MethodName := ⟨RX3, "holdShort", "(J)J"⟩
abbrev cX3_holdInt : ByteArray := prog_5_method_6_code
def yX3_holdInt : MethodName := ⟨RX3, "holdInt", "(J)J"⟩
def RX4 : String := "CordBay$Table"
def TX4 : u_T := fun k => match k with
  | 0 => ("CordBay$Table", "places", "[I", true)
  | _ => ("CordBay$Table", "length", "I", false)
def tyX4 : Nat → FieldType := fun k => match k with
  | 0 => .array .int
  | _ => .int
abbrev wsX40 : List Cond := u_ws RX4 TX4 2
theorem nmX4 : ∀ a, a < 2 → ∀ b, b < 2 → a ≠ b → (TX4 a).2.1 ≠ (TX4 b).2.1 := by decide +kernel
theorem tyX4_ok : ∀ k, k < 2 → parseFieldDescriptor (TX4 k).2.2.1 = some (tyX4 k) := by decide +kernel
abbrev cX4_init : ByteArray := prog_6_method_1_code
def yX4_init : MethodName := ⟨RX4, "<init>", "()V"⟩
abbrev cX4_renew : ByteArray := prog_6_method_2_code
def yX4_renew : MethodName := ⟨RX4, "renew", "(I)V"⟩
def RX5 : String := "CordBay$Unit"
def TX5 : u_T := fun k => match k with
  | 0 => ("CordBay$Unit", "kind", "I", true)
  | 1 => ("CordBay$Unit", "rowKind", "I", true)
  | 2 => ("CordBay$Unit", "knobs", "[I", true)
  | 3 => ("CordBay$Unit", "ins", "[I", true)
  | 4 => ("CordBay$Unit", "now", "LCordBay$State;", true)
  | _ => ("CordBay$Unit", "saved", "[LCordBay$State;", true)
def tyX5 : Nat → FieldType := fun k => match k with
  | 0 => .int
  | 1 => .int
  | 2 => .array .int
  | 3 => .array .int
  | 4 => .object "CordBay$State"
  | _ => .array (.object "CordBay$State")
abbrev wsX50 : List Cond := u_ws RX5 TX5 6
theorem nmX5 : ∀ a, a < 6 → ∀ b, b < 6 → a ≠ b → (TX5 a).2.1 ≠ (TX5 b).2.1 := by decide +kernel
theorem tyX5_ok : ∀ k, k < 6 → parseFieldDescriptor (TX5 k).2.2.1 = some (tyX5 k) := by decide +kernel
abbrev cX5_init : ByteArray := prog_7_method_1_code
def yX5_init : MethodName := ⟨RX5, "<init>", "(II)V"⟩
abbrev cX5_hasIn : ByteArray := prog_7_method_2_code
def yX5_hasIn : MethodName := ⟨RX5, "hasIn", "(I)Z"⟩
def RX6 : String := "CordBay"
def TX6 : u_T := fun k => match k with
  | 0 => ("CordBay", "patch", "LCordBay$Patch;", true)
  | 1 => ("CordBay", "tables", "[LCordBay$Table;", true)
  | 2 => ("CordBay", "presetKnobs", "[[I", true)
  | 3 => ("CordBay", "presetSizes", "[I", true)
  | 4 => ("CordBay", "takes", "[LCordBay$Row;", true)
  | 5 => ("CordBay", "takeCount", "I", false)
  | 6 => ("CordBay", "latest", "LCordBay$Block;", false)
  | 7 => ("CordBay", "blocksDone", "I", false)
  | _ => ("CordBay", "backable", "I", false)
def tyX6 : Nat → FieldType := fun k => match k with
  | 0 => .object "CordBay$Patch"
  | 1 => .array (.object "CordBay$Table")
  | 2 => .array (.array .int)
  | 3 => .array .int
  | 4 => .array (.object "CordBay$Row")
  | 5 => .int
  | 6 => .object "CordBay$Block"
  | 7 => .int
  | _ => .int
abbrev wsX60 : List Cond := u_ws RX6 TX6 9
theorem nmX6 : ∀ a, a < 9 → ∀ b, b < 9 → a ≠ b → (TX6 a).2.1 ≠ (TX6 b).2.1 := by decide +kernel
theorem tyX6_ok : ∀ k, k < 9 → parseFieldDescriptor (TX6 k).2.2.1 = some (tyX6 k) := by decide +kernel
abbrev cX6_init : ByteArray := prog_1_method_1_code
def yX6_init : MethodName := ⟨RX6, "<init>", "()V"⟩
abbrev cX6_module : ByteArray := prog_1_method_2_code
def yX6_module : MethodName := ⟨RX6, "module", "(II)I"⟩
abbrev cX6_cord : ByteArray := prog_1_method_3_code
def yX6_cord : MethodName := ⟨RX6, "cord", "(III)I"⟩
abbrev cX6_from : ByteArray := prog_1_method_4_code
def yX6_from : MethodName := ⟨RX6, "from", "(II)I"⟩
abbrev cX6_knob : ByteArray := prog_1_method_5_code
def yX6_knob : MethodName := ⟨RX6, "knob", "(III)I"⟩
abbrev cX6_table : ByteArray := prog_1_method_6_code
def yX6_table : MethodName := ⟨RX6, "table", "(II)I"⟩
abbrev cX6_write : ByteArray := prog_1_method_7_code
def yX6_write : MethodName := ⟨RX6, "write", "(III)I"⟩
abbrev cX6_block : ByteArray := prog_1_method_8_code
def yX6_block : MethodName := ⟨RX6, "block", "(I)I"⟩
abbrev cX6_back : ByteArray := prog_1_method_9_code
def yX6_back : MethodName := ⟨RX6, "back", "(I)I"⟩
abbrev cX6_keep : ByteArray := prog_1_method_10_code
def yX6_keep : MethodName := ⟨RX6, "keep", "(I)I"⟩
abbrev cX6_recall : ByteArray := prog_1_method_11_code
def yX6_recall : MethodName := ⟨RX6, "recall", "(I)I"⟩
abbrev cX6_take : ByteArray := prog_1_method_12_code
def yX6_take : MethodName := ⟨RX6, "take", "(I)I"⟩
abbrev cX6_equal : ByteArray := prog_1_method_13_code
def yX6_equal : MethodName := ⟨RX6, "equal", "(II)I"⟩
abbrev cX6_row : ByteArray := prog_1_method_14_code
def yX6_row : MethodName := ⟨RX6, "row", "(II)I"⟩
abbrev cX6_sample : ByteArray := prog_1_method_15_code
def yX6_sample : MethodName := ⟨RX6, "sample", "(II)D"⟩
abbrev cX6_isNone : ByteArray := prog_1_method_16_code
def yX6_isNone : MethodName := ⟨RX6, "isNone", "(II)Z"⟩
abbrev cX6_order : ByteArray := prog_1_method_17_code
def yX6_order : MethodName := ⟨RX6, "order", "(I)I"⟩
abbrev cX6_trace : ByteArray := prog_1_method_18_code
def yX6_trace : MethodName := ⟨RX6, "trace", "(I)I"⟩
abbrev cX6_finding : ByteArray := prog_1_method_19_code
def yX6_finding : MethodName := ⟨RX6, "finding", "(I)I"⟩
abbrev cX6_count : ByteArray := prog_1_method_20_code
def yX6_count : MethodName := ⟨RX6, "count", "(I)I"⟩
abbrev cX6_countOfUnit : ByteArray := prog_1_method_21_code
def yX6_countOfUnit : MethodName := ⟨RX6, "countOfUnit", "(I)I"⟩
abbrev cX6_givenBy : ByteArray := prog_1_method_22_code
def yX6_givenBy : MethodName := ⟨RX6, "givenBy", "(I)LCordBay$Row;"⟩
abbrev cX6_isTake : ByteArray := prog_1_method_23_code
def yX6_isTake : MethodName := ⟨RX6, "isTake", "(I)Z"⟩
abbrev cX6_slotOf : ByteArray := prog_1_method_24_code
def yX6_slotOf : MethodName := ⟨RX6, "slotOf", "(I)I"⟩
def RX7 : String := "CordBayModel"
def TX7 : u_T := fun k => match k with
  | 0 => ("CordBayModel", "latestTake", "I", false)
  | 1 => ("CordBayModel", "doubles", "[D", true)
  | 2 => ("CordBayModel", "ints", "[I", true)
  | 3 => ("CordBayModel", "modules", "I", false)
  | 4 => ("CordBayModel", "kinds", "[I", true)
  | 5 => ("CordBayModel", "rowKinds", "[I", true)
  | 6 => ("CordBayModel", "knobs", "[I", true)
  | 7 => ("CordBayModel", "cords", "[I", true)
  | 8 => ("CordBayModel", "tables", "[I", true)
  | 9 => ("CordBayModel", "tableMany", "[I", true)
  | 10 => ("CordBayModel", "done", "I", false)
  | 11 => ("CordBayModel", "pushed", "I", false)
  | 12 => ("CordBayModel", "backs", "I", false)
  | 13 => ("CordBayModel", "order", "[I", true)
  | 14 => ("CordBayModel", "trace", "[I", true)
  | 15 => ("CordBayModel", "traced", "I", false)
  | 16 => ("CordBayModel", "finding", "I", false)
  | 17 => ("CordBayModel", "findingModule", "I", false)
  | 18 => ("CordBayModel", "findingSample", "I", false)
  | 19 => ("CordBayModel", "samples", "I", false)
  | 20 => ("CordBayModel", "presets", "[I", true)
  | 21 => ("CordBayModel", "presetMany", "[I", true)
  | 22 => ("CordBayModel", "takes", "I", false)
  | 23 => ("CordBayModel", "takeNumbers", "[I", true)
  | 24 => ("CordBayModel", "takeKinds", "[I", true)
  | 25 => ("CordBayModel", "takeLengths", "[I", true)
  | 26 => ("CordBayModel", "takeNone", "[I", true)
  | 27 => ("CordBayModel", "takeSamples", "[D", true)
  | 28 => ("CordBayModel", "newNone", "I", false)
  | 29 => ("CordBayModel", "fresh", "[D", true)
  | _ => ("CordBayModel", "far", "[I", true)
def tyX7 : Nat → FieldType := fun k => match k with
  | 0 => .int
  | 1 => .array .double
  | 2 => .array .int
  | 3 => .int
  | 4 => .array .int
  | 5 => .array .int
  | 6 => .array .int
  | 7 => .array .int
  | 8 => .array .int
  | 9 => .array .int
  | 10 => .int
  | 11 => .int
  | 12 => .int
  | 13 => .array .int
  | 14 => .array .int
  | 15 => .int
  | 16 => .int
  | 17 => .int
  | 18 => .int
  | 19 => .int
  | 20 => .array .int
  | 21 => .array .int
  | 22 => .int
  | 23 => .array .int
  | 24 => .array .int
  | 25 => .array .int
  | 26 => .array .int
  | 27 => .array .double
  | 28 => .int
  | 29 => .array .double
  | _ => .array .int
abbrev wsX70 : List Cond := u_ws RX7 TX7 31
theorem nmX7 : ∀ a, a < 31 → ∀ b, b < 31 → a ≠ b → (TX7 a).2.1 ≠ (TX7 b).2.1 := by decide +kernel
theorem tyX7_ok : ∀ k, k < 31 → parseFieldDescriptor (TX7 k).2.2.1 = some (tyX7 k) := by decide +kernel
abbrev cX7_init : ByteArray := prog_9_method_1_code
def yX7_init : MethodName := ⟨RX7, "<init>", "()V"⟩
abbrev cX7_isIn : ByteArray := prog_9_method_2_code
def yX7_isIn : MethodName := ⟨RX7, "isIn", "(III)Z"⟩
abbrev cX7_isModule : ByteArray := prog_9_method_3_code
def yX7_isModule : MethodName := ⟨RX7, "isModule", "(I)Z"⟩
abbrev cX7_hasIn : ByteArray := prog_9_method_4_code
def yX7_hasIn : MethodName := ⟨RX7, "hasIn", "(II)Z"⟩
abbrev cX7_module : ByteArray := prog_9_method_5_code
def yX7_module : MethodName := ⟨RX7, "module", "(II)I"⟩
abbrev cX7_leads : ByteArray := prog_9_method_6_code
def yX7_leads : MethodName := ⟨RX7, "leads", "(II)Z"⟩
abbrev cX7_way : ByteArray := prog_9_method_7_code
def yX7_way : MethodName := ⟨RX7, "way", "(II)I"⟩
abbrev cX7_cord : ByteArray := prog_9_method_8_code
def yX7_cord : MethodName := ⟨RX7, "cord", "(III)I"⟩
abbrev cX7_from : ByteArray := prog_9_method_9_code
def yX7_from : MethodName := ⟨RX7, "from", "(II)I"⟩
abbrev cX7_knob : ByteArray := prog_9_method_10_code
def yX7_knob : MethodName := ⟨RX7, "knob", "(III)I"⟩
abbrev cX7_table : ByteArray := prog_9_method_11_code
def yX7_table : MethodName := ⟨RX7, "table", "(II)I"⟩
abbrev cX7_write : ByteArray := prog_9_method_12_code
def yX7_write : MethodName := ⟨RX7, "write", "(III)I"⟩
abbrev cX7_rowAt : ByteArray := prog_9_method_13_code
def yX7_rowAt : MethodName := ⟨RX7, "rowAt", "(II)I"⟩
abbrev cX7_kindOf : ByteArray := prog_9_method_14_code
def yX7_kindOf : MethodName := ⟨RX7, "kindOf", "(I)I"⟩
abbrev cX7_copyRow : ByteArray := prog_9_method_15_code
def yX7_copyRow : MethodName := ⟨RX7, "copyRow", "(IIII)V"⟩
abbrev cX7_noRow : ByteArray := prog_9_method_16_code
def yX7_noRow : MethodName := ⟨RX7, "noRow", "(II)V"⟩
abbrev cX7_copyState : ByteArray := prog_9_method_17_code
def yX7_copyState : MethodName := ⟨RX7, "copyState", "(II)V"⟩
abbrev cX7_fails : ByteArray := prog_9_method_18_code
def yX7_fails : MethodName := ⟨RX7, "fails", "(III)Z"⟩
abbrev cX7_hasRow : ByteArray := prog_9_method_19_code
def yX7_hasRow : MethodName := ⟨RX7, "hasRow", "(III)Z"⟩
abbrev cX7_hasSample : ByteArray := prog_9_method_20_code
def yX7_hasSample : MethodName := ⟨RX7, "hasSample", "(III)Z"⟩
abbrev cX7_sampleOf : ByteArray := prog_9_method_21_code
def yX7_sampleOf : MethodName := ⟨RX7, "sampleOf", "(III)D"⟩
abbrev cX7_isNoneOf : ByteArray := prog_9_method_22_code
def yX7_isNoneOf : MethodName := ⟨RX7, "isNoneOf", "(III)Z"⟩
abbrev cX7_held : ByteArray := prog_9_method_23_code
def yX7_held : MethodName := ⟨RX7, "held", "(D)D"⟩
abbrev cX7_heldTo : ByteArray := prog_9_method_24_code
def yX7_heldTo : MethodName := ⟨RX7, "heldTo", "(IJI)D"⟩
abbrev cX7_wholeInto : ByteArray := prog_9_method_25_code
def yX7_wholeInto : MethodName := ⟨RX7, "wholeInto", "(IJI)D"⟩
abbrev cX7_floatingInto : ByteArray := prog_9_method_26_code
def yX7_floatingInto : MethodName := ⟨RX7, "floatingInto", "(IDI)D"⟩
abbrev cX7_source : ByteArray := prog_9_method_27_code
def yX7_source : MethodName := ⟨RX7, "source", "(I)Z"⟩
abbrev cX7_shaped : ByteArray := prog_9_method_28_code
def yX7_shaped : MethodName := ⟨RX7, "shaped", "(IID)D"⟩
abbrev cX7_filtered : ByteArray := prog_9_method_29_code
def yX7_filtered : MethodName := ⟨RX7, "filtered", "(ID)D"⟩
abbrev cX7_late : ByteArray := prog_9_method_30_code
def yX7_late : MethodName := ⟨RX7, "late", "(ID)D"⟩
abbrev cX7_shape : ByteArray := prog_9_method_31_code
def yX7_shape : MethodName := ⟨RX7, "shape", "(I)Z"⟩
abbrev cX7_counts : ByteArray := prog_9_method_32_code
def yX7_counts : MethodName := ⟨RX7, "counts", "(II)Z"⟩
abbrev cX7_mix : ByteArray := prog_9_method_33_code
def yX7_mix : MethodName := ⟨RX7, "mix", "(I)Z"⟩
abbrev cX7_gate : ByteArray := prog_9_method_34_code
def yX7_gate : MethodName := ⟨RX7, "gate", "(I)Z"⟩
abbrev cX7_turn : ByteArray := prog_9_method_35_code
def yX7_turn : MethodName := ⟨RX7, "turn", "(I)Z"⟩
abbrev cX7_mean : ByteArray := prog_9_method_36_code
def yX7_mean : MethodName := ⟨RX7, "mean", "(I)Z"⟩
abbrev cX7_give : ByteArray := prog_9_method_37_code
def yX7_give : MethodName := ⟨RX7, "give", "(II)V"⟩
abbrev cX7_doesSwitch : ByteArray := prog_9_method_38_code
def yX7_doesSwitch : MethodName := ⟨RX7, "doesSwitch", "(I)Z"⟩
abbrev cX7_delay : ByteArray := prog_9_method_39_code
def yX7_delay : MethodName := ⟨RX7, "delay", "(I)V"⟩
abbrev cX7_acts : ByteArray := prog_9_method_40_code
def yX7_acts : MethodName := ⟨RX7, "acts", "(I)Z"⟩
abbrev cX7_feed : ByteArray := prog_9_method_41_code
def yX7_feed : MethodName := ⟨RX7, "feed", "()V"⟩
abbrev cX7_hasActed : ByteArray := prog_9_method_42_code
def yX7_hasActed : MethodName := ⟨RX7, "hasActed", "(II)Z"⟩
abbrev cX7_setOrder : ByteArray := prog_9_method_43_code
def yX7_setOrder : MethodName := ⟨RX7, "setOrder", "()V"⟩
abbrev cX7_block : ByteArray := prog_9_method_44_code
def yX7_block : MethodName := ⟨RX7, "block", "(I)I"⟩
abbrev cX7_back : ByteArray := prog_9_method_45_code
def yX7_back : MethodName := ⟨RX7, "back", "(I)I"⟩
abbrev cX7_keep : ByteArray := prog_9_method_46_code
def yX7_keep : MethodName := ⟨RX7, "keep", "(I)I"⟩
abbrev cX7_recall : ByteArray := prog_9_method_47_code
def yX7_recall : MethodName := ⟨RX7, "recall", "(I)I"⟩
abbrev cX7_take : ByteArray := prog_9_method_48_code
def yX7_take : MethodName := ⟨RX7, "take", "(I)I"⟩
abbrev cX7_takeOf : ByteArray := prog_9_method_49_code
def yX7_takeOf : MethodName := ⟨RX7, "takeOf", "(I)I"⟩
abbrev cX7_hasMinus : ByteArray := prog_9_method_50_code
def yX7_hasMinus : MethodName := ⟨RX7, "hasMinus", "(D)Z"⟩
abbrev cX7_equal : ByteArray := prog_9_method_51_code
def yX7_equal : MethodName := ⟨RX7, "equal", "(II)I"⟩
abbrev cX7_row : ByteArray := prog_9_method_52_code
def yX7_row : MethodName := ⟨RX7, "row", "(II)I"⟩
abbrev cX7_hasGiven : ByteArray := prog_9_method_53_code
def yX7_hasGiven : MethodName := ⟨RX7, "hasGiven", "(II)Z"⟩
abbrev cX7_sample : ByteArray := prog_9_method_54_code
def yX7_sample : MethodName := ⟨RX7, "sample", "(II)D"⟩
abbrev cX7_isNone : ByteArray := prog_9_method_55_code
def yX7_isNone : MethodName := ⟨RX7, "isNone", "(II)Z"⟩
abbrev cX7_order : ByteArray := prog_9_method_56_code
def yX7_order : MethodName := ⟨RX7, "order", "(I)I"⟩
abbrev cX7_trace : ByteArray := prog_9_method_57_code
def yX7_trace : MethodName := ⟨RX7, "trace", "(I)I"⟩
abbrev cX7_finding : ByteArray := prog_9_method_58_code
def yX7_finding : MethodName := ⟨RX7, "finding", "(I)I"⟩
abbrev cX7_count : ByteArray := prog_9_method_59_code
def yX7_count : MethodName := ⟨RX7, "count", "(I)I"⟩
def RJ6 : String := "java/lang/Integer"
def TJ6 : u_T := fun k => match k with
  | _ => ("", "", "", false)
def tyJ6 : Nat → FieldType := fun k => match k with
  | _ => .int
abbrev wsJ60 : List Cond := u_ws RJ6 TJ6 0
theorem nmJ6 : ∀ a, a < 0 → ∀ b, b < 0 → a ≠ b → (TJ6 a).2.1 ≠ (TJ6 b).2.1 := by decide +kernel
theorem tyJ6_ok : ∀ k, k < 0 → parseFieldDescriptor (TJ6 k).2.2.1 = some (tyJ6 k) := by decide +kernel
abbrev cJ6_bitCount_0f7a4 : ByteArray := prog_10_method_49_code
def yJ6_bitCount_0f7a4 : MethodName := ⟨RJ6, "bitCount", "(I)I"⟩
def RJ9 : String := "java/lang/Math"
def TJ9 : u_T := fun k => match k with
  | _ => ("", "", "", false)
def tyJ9 : Nat → FieldType := fun k => match k with
  | _ => .int
abbrev wsJ90 : List Cond := u_ws RJ9 TJ9 0
theorem nmJ9 : ∀ a, a < 0 → ∀ b, b < 0 → a ≠ b → (TJ9 a).2.1 ≠ (TJ9 b).2.1 := by decide +kernel
theorem tyJ9_ok : ∀ k, k < 0 → parseFieldDescriptor (TJ9 k).2.2.1 = some (tyJ9 k) := by decide +kernel
abbrev cJ9_floorMod_7cf53 : ByteArray := prog_11_method_50_code
def yJ9_floorMod_7cf53 : MethodName := ⟨RJ9, "floorMod", "(II)I"⟩
abbrev cJ9_max_7cf53 : ByteArray := prog_11_method_65_code
def yJ9_max_7cf53 : MethodName := ⟨RJ9, "max", "(II)I"⟩
abbrev cJ9_min_7cf53 : ByteArray := prog_11_method_69_code
def yJ9_min_7cf53 : MethodName := ⟨RJ9, "min", "(II)I"⟩
def RJ10 : String := "java/lang/System"
def TJ10 : u_T := fun k => match k with
  | _ => ("", "", "", false)
def tyJ10 : Nat → FieldType := fun k => match k with
  | _ => .int
abbrev wsJ100 : List Cond := u_ws RJ10 TJ10 0
theorem nmJ10 : ∀ a, a < 0 → ∀ b, b < 0 → a ≠ b → (TJ10 a).2.1 ≠ (TJ10 b).2.1 := by decide +kernel
theorem tyJ10_ok : ∀ k, k < 0 → parseFieldDescriptor (TJ10 k).2.2.1 = some (tyJ10 k) := by decide +kernel
def RL : String := "CordBayLaw"
abbrev cL_law : ByteArray := code
def yL_law : MethodName := ⟨RL, "law", "([I)Z"⟩
abbrev vwCl : List vw_C := [(RX0, TX0, 10), (RX1, TX1, 6), (RX2, TX2, 3), (RX3, TX3, 8), (RX4, TX4, 2), (RX5, TX5, 6), (RX6, TX6, 9), (RX7, TX7, 31)]
